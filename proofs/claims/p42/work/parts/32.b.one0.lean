set_option maxHeartbeats 100000000 in
theorem ls_one_b {ns : Nat} {σ1 σ2 : h_S} (hI1 : h_I σ1) (hI2 : h_I σ2) (hTL : d_tape σ1 σ2) (x1 : Int32) (a1 : Int) (hx1 : x1.toInt = a1) (y1 : Int32) (c1 : Int) (hy1 : y1.toInt = c1) (pr0 : σ1 64 2 = σ2 98 15) (pr1 : σ1 64 4 = σ2 98 16) (pr2 : σ1 63 2 = σ2 98 13) (pr3 : σ1 66 8 = σ2 98 5) (pr4 : σ1 66 9 = σ2 98 6) (pr5 : σ1 66 10 = σ2 101 43) (pr6 : σ1 69 2 = σ2 101 18) (pr7 : σ1 72 2 = σ2 101 25) (pr8 : σ1 63 5 = σ2 98 7) (pr9 : σ1 64 2 ≤ σ1 64 1) (pr10 : d_RD σ1 σ2) (pr11 : a1 = c1) (pr12 : 0 ≤ a1 ∧ a1 ≤ 3) (pc0 : ((σ1 63 2 = 0) ∧ (σ1 64 3 = 0) ∧ (0 ≤ σ1 66 8 ∧ σ1 66 8 ≤ 5) ∧ (σ2 98 13 = 0) ∧ (σ2 98 17 = 0) ∧ (0 ≤ σ2 98 5 ∧ σ2 98 5 ≤ 5) ∧ (σ1 64 4 = σ1 64 1)) ∨ ((σ1 63 2 = 0) ∧ (σ1 64 3 = 1) ∧ (0 ≤ σ1 66 8 ∧ σ1 66 8 ≤ 5) ∧ (σ2 98 13 = 0) ∧ (σ2 98 17 = 1) ∧ (0 ≤ σ2 98 5 ∧ σ2 98 5 ≤ 5) ∧ (σ1 64 4 < σ1 64 2)) ∨ ((σ1 63 2 = 0) ∧ (σ1 64 3 = 2) ∧ (0 ≤ σ1 66 8 ∧ σ1 66 8 ≤ 5) ∧ (σ2 98 13 = 0) ∧ (σ2 98 17 = 2) ∧ (0 ≤ σ2 98 5 ∧ σ2 98 5 ≤ 5) ∧ (0 ≤ σ1 64 5 ∧ σ1 64 5 ≤ 99) ∧ (0 ≤ σ2 98 18 ∧ σ2 98 18 ≤ 99) ∧ (σ1 64 5 = σ2 98 18) ∧ (σ1 64 4 < σ1 64 2)) ∨ ((σ1 63 2 = 0) ∧ (σ1 64 3 = 3) ∧ (0 ≤ σ1 66 8 ∧ σ1 66 8 ≤ 5) ∧ (σ2 98 13 = 0) ∧ (σ2 98 17 = 3) ∧ (0 ≤ σ2 98 5 ∧ σ2 98 5 ≤ 5) ∧ (σ1 64 4 < σ1 64 2))) {cs1 cs2 : List d_Fr} {Q : d_Q} (kx0 : ∀ (s t : h_S), h_I s → h_I t → h_F (k_in k_pl) s σ1 → h_F (k_in k_pm) t σ2 → (s 64 2 = t 98 15) → (s 64 4 = t 98 16) → (s 63 2 = t 98 13) → (s 64 2 ≤ s 64 1) → (σ1 64 2 ≤ s 64 2) → (d_ok s t) → (((1 ≤ s 63 2 ∧ s 63 2 ≤ 6) ∧ (1 ≤ t 98 13 ∧ t 98 13 ≤ 6) ∧ (s 63 2 = t 98 13) ∧ (s 63 3 = t 98 14)) ∨ ((s 63 2 = 0) ∧ (s 64 3 = 0) ∧ (t 98 13 = 0) ∧ (t 98 17 = 0) ∧ (s 64 4 = s 64 1)) ∨ ((s 63 2 = 0) ∧ (s 64 3 = 1) ∧ (t 98 13 = 0) ∧ (t 98 17 = 1) ∧ (s 64 4 < s 64 2)) ∨ ((s 63 2 = 0) ∧ (s 64 3 = 2) ∧ (t 98 13 = 0) ∧ (t 98 17 = 2) ∧ (0 ≤ s 64 5 ∧ s 64 5 ≤ 99) ∧ (0 ≤ t 98 18 ∧ t 98 18 ≤ 99) ∧ (s 64 5 = t 98 18) ∧ (s 64 4 < s 64 2)) ∨ ((s 63 2 = 0) ∧ (s 64 3 = 3) ∧ (t 98 13 = 0) ∧ (t 98 17 = 3) ∧ (s 64 4 < s 64 2) ∧ ((s 64 2 = σ1 64 2 ∧ s 64 3 = σ1 64 3) ∨ σ1 64 2 < s 64 2))) → ∀ lv2 mem2, h_loc [(0, .ref 98)] lv2 → h_R (g_Y ns) t mem2 → h_T g_P (g_Y ns) 59 63 [(0, .ref 63)] [] s (d_cs g_P (g_Y ns) cs1 (d_L g_P (g_Y ns) (153, 178, lv2, []) cs2 mem2 Q))) : ∀ lv2 mem2, h_loc [(0, .ref 98), (1, .int y1)] lv2 → h_R (g_Y ns) σ2 mem2 → h_T g_P (g_Y ns) 59 21 [(0, .ref 63), (1, .int x1)] [] σ1 (d_cs g_P (g_Y ns) cs1 (d_L g_P (g_Y ns) (153, 0, lv2, []) cs2 mem2 Q)) := by
  intro lv2 mem2 hl2 hR2
  have hT := hTL.1
  have hL := hTL.2
  have F1 : h_F (k_in k_pl) σ1 σ1 := h_F.rf
  have F2 : h_F (k_in k_pm) σ2 σ2 := h_F.rf
  have ge0 := tf_64_1 hI1
  have ge1 := tf_66_8 hI1
  have ge2 := tf_66_9 hI1
  have ge3 := tf_66_10 hI1
  have ge4 := tf_69_2 hI1
  have ge5 := tf_72_2 hI1
  have ge6 := tf_63_5 hI1
  have ge7 := tf_63_2 hI1
  have ge8 := tf_98_8 hI2
  have ge9 := tf_98_9 hI2
  have ge10 := tf_98_13 hI2
  rcases pc0 with pc0 | pc0 | pc0 | pc0
  · show h_T g_P (g_Y ns) 59 21 [(0, .ref 63), (1, .int x1)] [] σ1 _
    refine h_aload_n (pc' := 22) rfl rfl rfl ?_
    refine h_call (sp := false) (pc' := 25) (M := [(0, .ref 63)]) rfl rfl rfl rfl rfl rfl rfl rfl ?_
    refine h_aload_n (pc' := 1) rfl rfl rfl ?_
    refine h_getI (pc' := 4) (v := σ1 63 2) rfl rfl rfl rfl rfl rfl (fun z21 hz21 => ?_)
    have tz21 := tf_63_2 hI1
    refine h_zne (tg := 22) (pc' := 7) rfl rfl rfl hz21 (fun c22 => absurd (Int.le_antisymm (by omega) (by omega)) c22) (fun c22 => ?_)
    clear hz21
    refine h_aload_n (pc' := 8) rfl rfl rfl ?_
    refine h_getR (pc' := 11) rfl rfl rfl rfl rfl ?_
    refine h_getI (pc' := 14) (v := σ1 64 3) rfl rfl rfl rfl rfl rfl (fun z23 hz23 => ?_)
    have tz23 := tf_64_3 hI1
    refine h_iconst (pc' := 15) (x := (Int32.ofInt 2)) rfl rfl rfl ?_
    refine h_cne (tg := 22) (pc' := 18) rfl rfl rfl hz23 ci_2 (fun c24 => ?_) (fun c24 => absurd c24 (by omega))
    clear hz23
    refine h_iconst (pc' := 23) (x := (Int32.ofInt 0)) rfl rfl rfl ?_
    refine h_zret rfl rfl ci_0 (by omega) (h_Kv ?_)
    refine h_zeq (tg := 44) (pc' := 28) rfl rfl rfl ci_0 (fun c25 => ?_) (fun c25 => absurd (Int.le_antisymm (by omega) (by omega)) c25)
    refine h_bipush (pc' := 46) (x := (Int32.ofInt (-4))) rfl rfl cb_m4 ?_
    refine h_istore_n (pc' := 47) (M := [(2, .int (Int32.ofInt (-4))), (0, .ref 63), (1, .int x1)]) rfl rfl rfl rfl ?_
    refine h_aload_n (pc' := 48) rfl rfl rfl ?_
    refine h_getI (pc' := 51) (v := σ1 63 2) rfl rfl rfl rfl rfl rfl (fun z26 hz26 => ?_)
    refine h_zne (tg := 63) (pc' := 54) rfl rfl rfl hz26 (fun c27 => absurd (Int.le_antisymm (by omega) (by omega)) c27) (fun c27 => ?_)
    clear hz26
    refine h_aload_n (pc' := 55) rfl rfl rfl ?_
    refine h_getR (pc' := 58) rfl rfl rfl rfl rfl ?_
    refine h_iload_n (pc' := 59) rfl rfl rfl ?_
    refine h_iload_n (pc' := 60) rfl rfl rfl ?_
    refine h_call (sp := false) (pc' := 63) (M := [(0, .ref 66), (1, .int x1), (2, .int (Int32.ofInt (-4)))]) rfl rfl rfl rfl rfl rfl rfl rfl ?_
    refine h_aload_n (pc' := 1) rfl rfl rfl ?_
    refine h_getI (pc' := 4) (v := σ1 66 8) rfl rfl rfl rfl rfl rfl (fun z28 hz28 => ?_)
    have tz28 := tf_66_8 hI1
    refine h_bipush (pc' := 6) (x := (Int32.ofInt 6)) rfl rfl cb_6 ?_
    refine h_cge (tg := 39) (pc' := 9) rfl rfl rfl hz28 ci_6 (fun c29 => absurd c29 (by omega)) (fun c29 => ?_)
    clear hz28
    refine h_aload_n (pc' := 10) rfl rfl rfl ?_
    refine h_getR (pc' := 13) rfl rfl rfl rfl rfl ?_
    refine h_aload_n (pc' := 14) rfl rfl rfl ?_
    refine h_getI (pc' := 17) (v := σ1 66 8) rfl rfl rfl rfl rfl rfl (fun z30 hz30 => ?_)
    refine h_iload_n (pc' := 18) rfl rfl rfl ?_
    refine h_iast (pc' := 19) rfl rfl rfl rfl hz30 (by omega) (by omega) hx1 (h_fgt (E := fun s => s 64 2 = σ1 64 2 ∧ s 64 4 = σ1 64 4 ∧ s 64 3 = σ1 64 3 ∧ s 64 5 = σ1 64 5 ∧ s 63 2 = σ1 63 2 ∧ s 63 3 = σ1 63 3 ∧ s 64 1 = σ1 64 1 ∧ s 66 8 = σ1 66 8 ∧ s 66 9 = σ1 66 9 ∧ s 66 10 = σ1 66 10 ∧ s 69 2 = σ1 69 2 ∧ s 72 2 = σ1 72 2 ∧ s 63 5 = σ1 63 5 ∧ s = h_up σ1 67 (σ1 66 8) a1) _ (in_67 hI1 (by omega)) (F1.up rfl) ⟨rfl, rfl, rfl, rfl, rfl, rfl, rfl, rfl, rfl, rfl, rfl, rfl, rfl, rfl⟩ (fun s31 Is31 Fs31 (es31 : s31 64 2 = σ1 64 2 ∧ s31 64 4 = σ1 64 4 ∧ s31 64 3 = σ1 64 3 ∧ s31 64 5 = σ1 64 5 ∧ s31 63 2 = σ1 63 2 ∧ s31 63 3 = σ1 63 3 ∧ s31 64 1 = σ1 64 1 ∧ s31 66 8 = σ1 66 8 ∧ s31 66 9 = σ1 66 9 ∧ s31 66 10 = σ1 66 10 ∧ s31 69 2 = σ1 69 2 ∧ s31 72 2 = σ1 72 2 ∧ s31 63 5 = σ1 63 5 ∧ s31 = h_up σ1 67 (σ1 66 8) a1) => ?_))
    have us31 := es31.2.2.2.2.2.2.2.2.2.2.2.2.2
    clear hz30
    refine h_aload_n (pc' := 20) rfl rfl rfl ?_
    refine h_getR (pc' := 23) rfl rfl rfl rfl rfl ?_
    refine h_aload_n (pc' := 24) rfl rfl rfl ?_
    refine h_getI (pc' := 27) (v := σ1 66 8) rfl rfl rfl rfl rfl es31.2.2.2.2.2.2.2.1 (fun z32 hz32 => ?_)
    refine h_iload_n (pc' := 28) rfl rfl rfl ?_
    refine h_iast (pc' := 29) rfl rfl rfl rfl hz32 (by omega) (by omega) ci_m4 (h_fgt (E := fun s => s 64 2 = σ1 64 2 ∧ s 64 4 = σ1 64 4 ∧ s 64 3 = σ1 64 3 ∧ s 64 5 = σ1 64 5 ∧ s 63 2 = σ1 63 2 ∧ s 63 3 = σ1 63 3 ∧ s 64 1 = σ1 64 1 ∧ s 66 8 = σ1 66 8 ∧ s 66 9 = σ1 66 9 ∧ s 66 10 = σ1 66 10 ∧ s 69 2 = σ1 69 2 ∧ s 72 2 = σ1 72 2 ∧ s 63 5 = σ1 63 5 ∧ s = h_up s31 68 (σ1 66 8) (-4)) _ (in_68 Is31 (by omega)) (Fs31.up rfl) ⟨es31.1, es31.2.1, es31.2.2.1, es31.2.2.2.1, es31.2.2.2.2.1, es31.2.2.2.2.2.1, es31.2.2.2.2.2.2.1, es31.2.2.2.2.2.2.2.1, es31.2.2.2.2.2.2.2.2.1, es31.2.2.2.2.2.2.2.2.2.1, es31.2.2.2.2.2.2.2.2.2.2.1, es31.2.2.2.2.2.2.2.2.2.2.2.1, es31.2.2.2.2.2.2.2.2.2.2.2.2.1, rfl⟩ (fun s33 Is33 Fs33 (es33 : s33 64 2 = σ1 64 2 ∧ s33 64 4 = σ1 64 4 ∧ s33 64 3 = σ1 64 3 ∧ s33 64 5 = σ1 64 5 ∧ s33 63 2 = σ1 63 2 ∧ s33 63 3 = σ1 63 3 ∧ s33 64 1 = σ1 64 1 ∧ s33 66 8 = σ1 66 8 ∧ s33 66 9 = σ1 66 9 ∧ s33 66 10 = σ1 66 10 ∧ s33 69 2 = σ1 69 2 ∧ s33 72 2 = σ1 72 2 ∧ s33 63 5 = σ1 63 5 ∧ s33 = h_up s31 68 (σ1 66 8) (-4)) => ?_))
    clear es31
    have us33 := es33.2.2.2.2.2.2.2.2.2.2.2.2.2
    clear hz32
    refine h_aload_n (pc' := 30) rfl rfl rfl ?_
    refine h_dup (pc' := 31) rfl rfl rfl ?_
    refine h_getI (pc' := 34) (v := σ1 66 8) rfl rfl rfl rfl rfl es33.2.2.2.2.2.2.2.1 (fun z34 hz34 => ?_)
    refine h_iconst (pc' := 35) (x := (Int32.ofInt 1)) rfl rfl rfl ?_
    refine h_iadd (pc' := 36) rfl rfl hz34 ci_1 rfl (by omega) (by omega) (fun z35 hz35 => ?_)
    clear hz34
    refine h_put (pc' := 39) rfl rfl rfl rfl rfl rfl hz35 rfl (h_fgt (E := fun s => s 64 2 = σ1 64 2 ∧ s 64 4 = σ1 64 4 ∧ s 64 3 = σ1 64 3 ∧ s 64 5 = σ1 64 5 ∧ s 63 2 = σ1 63 2 ∧ s 63 3 = σ1 63 3 ∧ s 64 1 = σ1 64 1 ∧ s 66 8 = ((σ1 66 8) + 1) ∧ s 66 9 = σ1 66 9 ∧ s 66 10 = σ1 66 10 ∧ s 69 2 = σ1 69 2 ∧ s 72 2 = σ1 72 2 ∧ s 63 5 = σ1 63 5 ∧ s = h_up s33 66 8 ((σ1 66 8) + 1)) _ (if_66_8 Is33 (by omega)) (Fs33.up rfl) ⟨es33.1, es33.2.1, es33.2.2.1, es33.2.2.2.1, es33.2.2.2.2.1, es33.2.2.2.2.2.1, es33.2.2.2.2.2.2.1, rfl, es33.2.2.2.2.2.2.2.2.1, es33.2.2.2.2.2.2.2.2.2.1, es33.2.2.2.2.2.2.2.2.2.2.1, es33.2.2.2.2.2.2.2.2.2.2.2.1, es33.2.2.2.2.2.2.2.2.2.2.2.2.1, rfl⟩ (fun s36 Is36 Fs36 (es36 : s36 64 2 = σ1 64 2 ∧ s36 64 4 = σ1 64 4 ∧ s36 64 3 = σ1 64 3 ∧ s36 64 5 = σ1 64 5 ∧ s36 63 2 = σ1 63 2 ∧ s36 63 3 = σ1 63 3 ∧ s36 64 1 = σ1 64 1 ∧ s36 66 8 = ((σ1 66 8) + 1) ∧ s36 66 9 = σ1 66 9 ∧ s36 66 10 = σ1 66 10 ∧ s36 69 2 = σ1 69 2 ∧ s36 72 2 = σ1 72 2 ∧ s36 63 5 = σ1 63 5 ∧ s36 = h_up s33 66 8 ((σ1 66 8) + 1)) => ?_))
    clear es33
    have us36 := es36.2.2.2.2.2.2.2.2.2.2.2.2.2
    refine h_vret rfl rfl (h_Kn ?_)
    refine d_toM (g_inj ns) hl2 hR2 (fun lvw37 memw37 hlw37 hRw37 => ?_)
    show h_T g_P (g_Y ns) 153 0 [(0, .ref 98), (1, .int y1)] [] σ2 _
    refine h_iload_n (pc' := 1) rfl rfl rfl ?_
    refine h_iconst (pc' := 2) (x := (Int32.ofInt 3)) rfl rfl rfl ?_
    refine h_cgt (tg := 61) (pc' := 5) rfl rfl rfl hy1 ci_3 (fun c38 => absurd c38 (by omega)) (fun c38 => ?_)
    refine h_aload_n (pc' := 6) rfl rfl rfl ?_
    refine h_getR (pc' := 9) rfl rfl rfl rfl rfl ?_
    refine h_aload_n (pc' := 10) rfl rfl rfl ?_
    refine h_getI (pc' := 13) (v := σ2 98 5) rfl rfl rfl rfl rfl rfl (fun z39 hz39 => ?_)
    have tz39 := tf_98_5 hI2
    refine h_iload_n (pc' := 14) rfl rfl rfl ?_
    refine h_iast (pc' := 15) rfl rfl rfl rfl hz39 (by omega) (by omega) hy1 (h_fgt (E := fun s => s 98 15 = σ2 98 15 ∧ s 98 16 = σ2 98 16 ∧ s 98 17 = σ2 98 17 ∧ s 98 18 = σ2 98 18 ∧ s 98 13 = σ2 98 13 ∧ s 98 14 = σ2 98 14 ∧ s 98 5 = σ2 98 5 ∧ s 98 6 = σ2 98 6 ∧ s 98 7 = σ2 98 7 ∧ s 98 8 = σ2 98 8 ∧ s 98 9 = σ2 98 9 ∧ s 101 18 = σ2 101 18 ∧ s 101 25 = σ2 101 25 ∧ s 101 43 = σ2 101 43 ∧ s = h_up σ2 101 (σ2 98 5) c1) _ (ip_101_0 hI2 (by omega) (by omega)) (F2.up rfl) ⟨rfl, rfl, rfl, rfl, rfl, rfl, rfl, rfl, rfl, rfl, rfl, h_up_n2 (by omega) rfl, h_up_n2 (by omega) rfl, h_up_n2 (by omega) rfl, rfl⟩ (fun s40 Is40 Fs40 (es40 : s40 98 15 = σ2 98 15 ∧ s40 98 16 = σ2 98 16 ∧ s40 98 17 = σ2 98 17 ∧ s40 98 18 = σ2 98 18 ∧ s40 98 13 = σ2 98 13 ∧ s40 98 14 = σ2 98 14 ∧ s40 98 5 = σ2 98 5 ∧ s40 98 6 = σ2 98 6 ∧ s40 98 7 = σ2 98 7 ∧ s40 98 8 = σ2 98 8 ∧ s40 98 9 = σ2 98 9 ∧ s40 101 18 = σ2 101 18 ∧ s40 101 25 = σ2 101 25 ∧ s40 101 43 = σ2 101 43 ∧ s40 = h_up σ2 101 (σ2 98 5) c1) => ?_))
    have us40 := es40.2.2.2.2.2.2.2.2.2.2.2.2.2.2
    clear hz39
    refine h_aload_n (pc' := 16) rfl rfl rfl ?_
    refine h_getI (pc' := 19) (v := σ2 98 17) rfl rfl rfl rfl rfl es40.2.2.1 (fun z41 hz41 => ?_)
    have tz41 := tf_98_17 hI2
    refine h_iconst (pc' := 20) (x := (Int32.ofInt 2)) rfl rfl rfl ?_
    refine h_cne (tg := 48) (pc' := 23) rfl rfl rfl hz41 ci_2 (fun c42 => ?_) (fun c42 => absurd c42 (by omega))
    clear hz41
    refine h_aload_n (pc' := 49) rfl rfl rfl ?_
    refine h_dup (pc' := 50) rfl rfl rfl ?_
    refine h_getI (pc' := 53) (v := σ2 98 5) rfl rfl rfl rfl rfl es40.2.2.2.2.2.2.1 (fun z43 hz43 => ?_)
    refine h_iconst (pc' := 54) (x := (Int32.ofInt 1)) rfl rfl rfl ?_
    refine h_iadd (pc' := 55) rfl rfl hz43 ci_1 rfl (by omega) (by omega) (fun z44 hz44 => ?_)
    clear hz43
    refine h_put (pc' := 58) rfl rfl rfl rfl rfl rfl hz44 rfl (h_fgt (E := fun s => s 98 15 = σ2 98 15 ∧ s 98 16 = σ2 98 16 ∧ s 98 17 = σ2 98 17 ∧ s 98 18 = σ2 98 18 ∧ s 98 13 = σ2 98 13 ∧ s 98 14 = σ2 98 14 ∧ s 98 5 = ((σ2 98 5) + 1) ∧ s 98 6 = σ2 98 6 ∧ s 98 7 = σ2 98 7 ∧ s 98 8 = σ2 98 8 ∧ s 98 9 = σ2 98 9 ∧ s 101 18 = σ2 101 18 ∧ s 101 25 = σ2 101 25 ∧ s 101 43 = σ2 101 43 ∧ s = h_up s40 98 5 ((σ2 98 5) + 1)) _ (if_98_5 Is40 (by omega)) (Fs40.up rfl) ⟨es40.1, es40.2.1, es40.2.2.1, es40.2.2.2.1, es40.2.2.2.2.1, es40.2.2.2.2.2.1, rfl, es40.2.2.2.2.2.2.2.1, es40.2.2.2.2.2.2.2.2.1, es40.2.2.2.2.2.2.2.2.2.1, es40.2.2.2.2.2.2.2.2.2.2.1, es40.2.2.2.2.2.2.2.2.2.2.2.1, es40.2.2.2.2.2.2.2.2.2.2.2.2.1, es40.2.2.2.2.2.2.2.2.2.2.2.2.2.1, rfl⟩ (fun s45 Is45 Fs45 (es45 : s45 98 15 = σ2 98 15 ∧ s45 98 16 = σ2 98 16 ∧ s45 98 17 = σ2 98 17 ∧ s45 98 18 = σ2 98 18 ∧ s45 98 13 = σ2 98 13 ∧ s45 98 14 = σ2 98 14 ∧ s45 98 5 = ((σ2 98 5) + 1) ∧ s45 98 6 = σ2 98 6 ∧ s45 98 7 = σ2 98 7 ∧ s45 98 8 = σ2 98 8 ∧ s45 98 9 = σ2 98 9 ∧ s45 101 18 = σ2 101 18 ∧ s45 101 25 = σ2 101 25 ∧ s45 101 43 = σ2 101 43 ∧ s45 = h_up s40 98 5 ((σ2 98 5) + 1)) => ?_))
    clear es40
    have us45 := es45.2.2.2.2.2.2.2.2.2.2.2.2.2.2
    refine h_goto (pc' := 178) rfl rfl ?_
    refine d_toL (g_inj ns) hlw37 hRw37 (fun lvw46 memw46 hlw46 hRw46 => ?_)
    show h_T g_P (g_Y ns) 59 63 [(2, .int (Int32.ofInt (-4))), (0, .ref 63), (1, .int x1)] [] s36 _
    exact h_wk [(0, .ref 63)] ⟨rfl, trivial⟩ (kx0 _ _ Is36 Is45 Fs36 Fs45 (Int.le_antisymm (by omega) (by omega)) (Int.le_antisymm (by omega) (by omega)) (Int.le_antisymm (by omega) (by omega)) (by omega) (by omega) (fun _ => d_mk (es36.2.2.2.2.2.2.2.1) (es36.2.2.2.2.2.2.2.2.1) (es36.2.2.2.2.2.2.2.2.2.1) (es36.2.2.2.2.2.2.2.2.2.2.1) (es36.2.2.2.2.2.2.2.2.2.2.2.1) (es36.2.2.2.2.2.2.2.2.2.2.2.2.1) (fun j => (h_upo us36 rfl j).trans ((h_upo us33 rfl j).trans ((h_upi us31 j)))) (fun j => (h_upo us36 rfl j).trans ((h_upi us33 j).trans (congrArg (fun z => if j = (σ1 66 8) then (-4) else z) ((h_upo us31 rfl j))))) (fun j => (h_upo us36 rfl j).trans ((h_upo us33 rfl j).trans ((h_upo us31 rfl j)))) (fun j => (h_upo us36 rfl j).trans ((h_upo us33 rfl j).trans ((h_upo us31 rfl j)))) (fun j => (h_upo us36 rfl j).trans ((h_upo us33 rfl j).trans ((h_upo us31 rfl j)))) (fun j => (h_upo us36 rfl j).trans ((h_upo us33 rfl j).trans ((h_upo us31 rfl j)))) (fun j => (h_upo us36 rfl j).trans ((h_upo us33 rfl j).trans ((h_upo us31 rfl j)))) (fun j => (h_upo us36 rfl j).trans ((h_upo us33 rfl j).trans ((h_upo us31 rfl j)))) (fun j => (h_upo us36 rfl j).trans ((h_upo us33 rfl j).trans ((h_upo us31 rfl j)))) (fun j => (h_upo us36 rfl j).trans ((h_upo us33 rfl j).trans ((h_upo us31 rfl j)))) (es45.2.2.2.2.2.2.1) (es45.2.2.2.2.2.2.2.1) (es45.2.2.2.2.2.2.2.2.1) (es45.2.2.2.2.2.2.2.2.2.1) (es45.2.2.2.2.2.2.2.2.2.2.1) (fun j => (h_upo us45 rfl j).trans ((h_upi us40 j))) (r_one0 pr10 (by omega) (by omega) (by omega) (by omega) (by omega) (by omega) (by omega))) (Or.inr (Or.inl ⟨Int.le_antisymm (by omega) (by omega), Int.le_antisymm (by omega) (by omega), Int.le_antisymm (by omega) (by omega), Int.le_antisymm (by omega) (by omega), Int.le_antisymm (by omega) (by omega)⟩)) _ _ (h_al_ok ⟨rfl, trivial⟩ hlw46) hRw46)
  · show h_T g_P (g_Y ns) 59 21 [(0, .ref 63), (1, .int x1)] [] σ1 _
    refine h_aload_n (pc' := 22) rfl rfl rfl ?_
    refine h_call (sp := false) (pc' := 25) (M := [(0, .ref 63)]) rfl rfl rfl rfl rfl rfl rfl rfl ?_
    refine h_aload_n (pc' := 1) rfl rfl rfl ?_
    refine h_getI (pc' := 4) (v := σ1 63 2) rfl rfl rfl rfl rfl rfl (fun z47 hz47 => ?_)
    have tz47 := tf_63_2 hI1
    refine h_zne (tg := 22) (pc' := 7) rfl rfl rfl hz47 (fun c48 => absurd (Int.le_antisymm (by omega) (by omega)) c48) (fun c48 => ?_)
    clear hz47
    refine h_aload_n (pc' := 8) rfl rfl rfl ?_
    refine h_getR (pc' := 11) rfl rfl rfl rfl rfl ?_
    refine h_getI (pc' := 14) (v := σ1 64 3) rfl rfl rfl rfl rfl rfl (fun z49 hz49 => ?_)
    have tz49 := tf_64_3 hI1
    refine h_iconst (pc' := 15) (x := (Int32.ofInt 2)) rfl rfl rfl ?_
    refine h_cne (tg := 22) (pc' := 18) rfl rfl rfl hz49 ci_2 (fun c50 => ?_) (fun c50 => absurd c50 (by omega))
    clear hz49
    refine h_iconst (pc' := 23) (x := (Int32.ofInt 0)) rfl rfl rfl ?_
    refine h_zret rfl rfl ci_0 (by omega) (h_Kv ?_)
    refine h_zeq (tg := 44) (pc' := 28) rfl rfl rfl ci_0 (fun c51 => ?_) (fun c51 => absurd (Int.le_antisymm (by omega) (by omega)) c51)
    refine h_bipush (pc' := 46) (x := (Int32.ofInt (-4))) rfl rfl cb_m4 ?_
    refine h_istore_n (pc' := 47) (M := [(2, .int (Int32.ofInt (-4))), (0, .ref 63), (1, .int x1)]) rfl rfl rfl rfl ?_
    refine h_aload_n (pc' := 48) rfl rfl rfl ?_
    refine h_getI (pc' := 51) (v := σ1 63 2) rfl rfl rfl rfl rfl rfl (fun z52 hz52 => ?_)
    refine h_zne (tg := 63) (pc' := 54) rfl rfl rfl hz52 (fun c53 => absurd (Int.le_antisymm (by omega) (by omega)) c53) (fun c53 => ?_)
    clear hz52
    refine h_aload_n (pc' := 55) rfl rfl rfl ?_
    refine h_getR (pc' := 58) rfl rfl rfl rfl rfl ?_
    refine h_iload_n (pc' := 59) rfl rfl rfl ?_
    refine h_iload_n (pc' := 60) rfl rfl rfl ?_
    refine h_call (sp := false) (pc' := 63) (M := [(0, .ref 66), (1, .int x1), (2, .int (Int32.ofInt (-4)))]) rfl rfl rfl rfl rfl rfl rfl rfl ?_
    refine h_aload_n (pc' := 1) rfl rfl rfl ?_
    refine h_getI (pc' := 4) (v := σ1 66 8) rfl rfl rfl rfl rfl rfl (fun z54 hz54 => ?_)
    have tz54 := tf_66_8 hI1
    refine h_bipush (pc' := 6) (x := (Int32.ofInt 6)) rfl rfl cb_6 ?_
    refine h_cge (tg := 39) (pc' := 9) rfl rfl rfl hz54 ci_6 (fun c55 => absurd c55 (by omega)) (fun c55 => ?_)
    clear hz54
    refine h_aload_n (pc' := 10) rfl rfl rfl ?_
    refine h_getR (pc' := 13) rfl rfl rfl rfl rfl ?_
    refine h_aload_n (pc' := 14) rfl rfl rfl ?_
    refine h_getI (pc' := 17) (v := σ1 66 8) rfl rfl rfl rfl rfl rfl (fun z56 hz56 => ?_)
    refine h_iload_n (pc' := 18) rfl rfl rfl ?_
    refine h_iast (pc' := 19) rfl rfl rfl rfl hz56 (by omega) (by omega) hx1 (h_fgt (E := fun s => s 64 2 = σ1 64 2 ∧ s 64 4 = σ1 64 4 ∧ s 64 3 = σ1 64 3 ∧ s 64 5 = σ1 64 5 ∧ s 63 2 = σ1 63 2 ∧ s 63 3 = σ1 63 3 ∧ s 64 1 = σ1 64 1 ∧ s 66 8 = σ1 66 8 ∧ s 66 9 = σ1 66 9 ∧ s 66 10 = σ1 66 10 ∧ s 69 2 = σ1 69 2 ∧ s 72 2 = σ1 72 2 ∧ s 63 5 = σ1 63 5 ∧ s = h_up σ1 67 (σ1 66 8) a1) _ (in_67 hI1 (by omega)) (F1.up rfl) ⟨rfl, rfl, rfl, rfl, rfl, rfl, rfl, rfl, rfl, rfl, rfl, rfl, rfl, rfl⟩ (fun s57 Is57 Fs57 (es57 : s57 64 2 = σ1 64 2 ∧ s57 64 4 = σ1 64 4 ∧ s57 64 3 = σ1 64 3 ∧ s57 64 5 = σ1 64 5 ∧ s57 63 2 = σ1 63 2 ∧ s57 63 3 = σ1 63 3 ∧ s57 64 1 = σ1 64 1 ∧ s57 66 8 = σ1 66 8 ∧ s57 66 9 = σ1 66 9 ∧ s57 66 10 = σ1 66 10 ∧ s57 69 2 = σ1 69 2 ∧ s57 72 2 = σ1 72 2 ∧ s57 63 5 = σ1 63 5 ∧ s57 = h_up σ1 67 (σ1 66 8) a1) => ?_))
    have us57 := es57.2.2.2.2.2.2.2.2.2.2.2.2.2
    clear hz56
    refine h_aload_n (pc' := 20) rfl rfl rfl ?_
    refine h_getR (pc' := 23) rfl rfl rfl rfl rfl ?_
    refine h_aload_n (pc' := 24) rfl rfl rfl ?_
    refine h_getI (pc' := 27) (v := σ1 66 8) rfl rfl rfl rfl rfl es57.2.2.2.2.2.2.2.1 (fun z58 hz58 => ?_)
    refine h_iload_n (pc' := 28) rfl rfl rfl ?_
    refine h_iast (pc' := 29) rfl rfl rfl rfl hz58 (by omega) (by omega) ci_m4 (h_fgt (E := fun s => s 64 2 = σ1 64 2 ∧ s 64 4 = σ1 64 4 ∧ s 64 3 = σ1 64 3 ∧ s 64 5 = σ1 64 5 ∧ s 63 2 = σ1 63 2 ∧ s 63 3 = σ1 63 3 ∧ s 64 1 = σ1 64 1 ∧ s 66 8 = σ1 66 8 ∧ s 66 9 = σ1 66 9 ∧ s 66 10 = σ1 66 10 ∧ s 69 2 = σ1 69 2 ∧ s 72 2 = σ1 72 2 ∧ s 63 5 = σ1 63 5 ∧ s = h_up s57 68 (σ1 66 8) (-4)) _ (in_68 Is57 (by omega)) (Fs57.up rfl) ⟨es57.1, es57.2.1, es57.2.2.1, es57.2.2.2.1, es57.2.2.2.2.1, es57.2.2.2.2.2.1, es57.2.2.2.2.2.2.1, es57.2.2.2.2.2.2.2.1, es57.2.2.2.2.2.2.2.2.1, es57.2.2.2.2.2.2.2.2.2.1, es57.2.2.2.2.2.2.2.2.2.2.1, es57.2.2.2.2.2.2.2.2.2.2.2.1, es57.2.2.2.2.2.2.2.2.2.2.2.2.1, rfl⟩ (fun s59 Is59 Fs59 (es59 : s59 64 2 = σ1 64 2 ∧ s59 64 4 = σ1 64 4 ∧ s59 64 3 = σ1 64 3 ∧ s59 64 5 = σ1 64 5 ∧ s59 63 2 = σ1 63 2 ∧ s59 63 3 = σ1 63 3 ∧ s59 64 1 = σ1 64 1 ∧ s59 66 8 = σ1 66 8 ∧ s59 66 9 = σ1 66 9 ∧ s59 66 10 = σ1 66 10 ∧ s59 69 2 = σ1 69 2 ∧ s59 72 2 = σ1 72 2 ∧ s59 63 5 = σ1 63 5 ∧ s59 = h_up s57 68 (σ1 66 8) (-4)) => ?_))
    clear es57
    have us59 := es59.2.2.2.2.2.2.2.2.2.2.2.2.2
    clear hz58
    refine h_aload_n (pc' := 30) rfl rfl rfl ?_
    refine h_dup (pc' := 31) rfl rfl rfl ?_
    refine h_getI (pc' := 34) (v := σ1 66 8) rfl rfl rfl rfl rfl es59.2.2.2.2.2.2.2.1 (fun z60 hz60 => ?_)
    refine h_iconst (pc' := 35) (x := (Int32.ofInt 1)) rfl rfl rfl ?_
    refine h_iadd (pc' := 36) rfl rfl hz60 ci_1 rfl (by omega) (by omega) (fun z61 hz61 => ?_)
    clear hz60
    refine h_put (pc' := 39) rfl rfl rfl rfl rfl rfl hz61 rfl (h_fgt (E := fun s => s 64 2 = σ1 64 2 ∧ s 64 4 = σ1 64 4 ∧ s 64 3 = σ1 64 3 ∧ s 64 5 = σ1 64 5 ∧ s 63 2 = σ1 63 2 ∧ s 63 3 = σ1 63 3 ∧ s 64 1 = σ1 64 1 ∧ s 66 8 = ((σ1 66 8) + 1) ∧ s 66 9 = σ1 66 9 ∧ s 66 10 = σ1 66 10 ∧ s 69 2 = σ1 69 2 ∧ s 72 2 = σ1 72 2 ∧ s 63 5 = σ1 63 5 ∧ s = h_up s59 66 8 ((σ1 66 8) + 1)) _ (if_66_8 Is59 (by omega)) (Fs59.up rfl) ⟨es59.1, es59.2.1, es59.2.2.1, es59.2.2.2.1, es59.2.2.2.2.1, es59.2.2.2.2.2.1, es59.2.2.2.2.2.2.1, rfl, es59.2.2.2.2.2.2.2.2.1, es59.2.2.2.2.2.2.2.2.2.1, es59.2.2.2.2.2.2.2.2.2.2.1, es59.2.2.2.2.2.2.2.2.2.2.2.1, es59.2.2.2.2.2.2.2.2.2.2.2.2.1, rfl⟩ (fun s62 Is62 Fs62 (es62 : s62 64 2 = σ1 64 2 ∧ s62 64 4 = σ1 64 4 ∧ s62 64 3 = σ1 64 3 ∧ s62 64 5 = σ1 64 5 ∧ s62 63 2 = σ1 63 2 ∧ s62 63 3 = σ1 63 3 ∧ s62 64 1 = σ1 64 1 ∧ s62 66 8 = ((σ1 66 8) + 1) ∧ s62 66 9 = σ1 66 9 ∧ s62 66 10 = σ1 66 10 ∧ s62 69 2 = σ1 69 2 ∧ s62 72 2 = σ1 72 2 ∧ s62 63 5 = σ1 63 5 ∧ s62 = h_up s59 66 8 ((σ1 66 8) + 1)) => ?_))
    clear es59
    have us62 := es62.2.2.2.2.2.2.2.2.2.2.2.2.2
    refine h_vret rfl rfl (h_Kn ?_)
    refine d_toM (g_inj ns) hl2 hR2 (fun lvw63 memw63 hlw63 hRw63 => ?_)
    show h_T g_P (g_Y ns) 153 0 [(0, .ref 98), (1, .int y1)] [] σ2 _
    refine h_iload_n (pc' := 1) rfl rfl rfl ?_
    refine h_iconst (pc' := 2) (x := (Int32.ofInt 3)) rfl rfl rfl ?_
    refine h_cgt (tg := 61) (pc' := 5) rfl rfl rfl hy1 ci_3 (fun c64 => absurd c64 (by omega)) (fun c64 => ?_)
    refine h_aload_n (pc' := 6) rfl rfl rfl ?_
    refine h_getR (pc' := 9) rfl rfl rfl rfl rfl ?_
    refine h_aload_n (pc' := 10) rfl rfl rfl ?_
    refine h_getI (pc' := 13) (v := σ2 98 5) rfl rfl rfl rfl rfl rfl (fun z65 hz65 => ?_)
    have tz65 := tf_98_5 hI2
    refine h_iload_n (pc' := 14) rfl rfl rfl ?_
    refine h_iast (pc' := 15) rfl rfl rfl rfl hz65 (by omega) (by omega) hy1 (h_fgt (E := fun s => s 98 15 = σ2 98 15 ∧ s 98 16 = σ2 98 16 ∧ s 98 17 = σ2 98 17 ∧ s 98 18 = σ2 98 18 ∧ s 98 13 = σ2 98 13 ∧ s 98 14 = σ2 98 14 ∧ s 98 5 = σ2 98 5 ∧ s 98 6 = σ2 98 6 ∧ s 98 7 = σ2 98 7 ∧ s 98 8 = σ2 98 8 ∧ s 98 9 = σ2 98 9 ∧ s 101 18 = σ2 101 18 ∧ s 101 25 = σ2 101 25 ∧ s 101 43 = σ2 101 43 ∧ s = h_up σ2 101 (σ2 98 5) c1) _ (ip_101_0 hI2 (by omega) (by omega)) (F2.up rfl) ⟨rfl, rfl, rfl, rfl, rfl, rfl, rfl, rfl, rfl, rfl, rfl, h_up_n2 (by omega) rfl, h_up_n2 (by omega) rfl, h_up_n2 (by omega) rfl, rfl⟩ (fun s66 Is66 Fs66 (es66 : s66 98 15 = σ2 98 15 ∧ s66 98 16 = σ2 98 16 ∧ s66 98 17 = σ2 98 17 ∧ s66 98 18 = σ2 98 18 ∧ s66 98 13 = σ2 98 13 ∧ s66 98 14 = σ2 98 14 ∧ s66 98 5 = σ2 98 5 ∧ s66 98 6 = σ2 98 6 ∧ s66 98 7 = σ2 98 7 ∧ s66 98 8 = σ2 98 8 ∧ s66 98 9 = σ2 98 9 ∧ s66 101 18 = σ2 101 18 ∧ s66 101 25 = σ2 101 25 ∧ s66 101 43 = σ2 101 43 ∧ s66 = h_up σ2 101 (σ2 98 5) c1) => ?_))
    have us66 := es66.2.2.2.2.2.2.2.2.2.2.2.2.2.2
    clear hz65
    refine h_aload_n (pc' := 16) rfl rfl rfl ?_
    refine h_getI (pc' := 19) (v := σ2 98 17) rfl rfl rfl rfl rfl es66.2.2.1 (fun z67 hz67 => ?_)
    have tz67 := tf_98_17 hI2
    refine h_iconst (pc' := 20) (x := (Int32.ofInt 2)) rfl rfl rfl ?_
    refine h_cne (tg := 48) (pc' := 23) rfl rfl rfl hz67 ci_2 (fun c68 => ?_) (fun c68 => absurd c68 (by omega))
    clear hz67
    refine h_aload_n (pc' := 49) rfl rfl rfl ?_
    refine h_dup (pc' := 50) rfl rfl rfl ?_
    refine h_getI (pc' := 53) (v := σ2 98 5) rfl rfl rfl rfl rfl es66.2.2.2.2.2.2.1 (fun z69 hz69 => ?_)
    refine h_iconst (pc' := 54) (x := (Int32.ofInt 1)) rfl rfl rfl ?_
    refine h_iadd (pc' := 55) rfl rfl hz69 ci_1 rfl (by omega) (by omega) (fun z70 hz70 => ?_)
    clear hz69
    refine h_put (pc' := 58) rfl rfl rfl rfl rfl rfl hz70 rfl (h_fgt (E := fun s => s 98 15 = σ2 98 15 ∧ s 98 16 = σ2 98 16 ∧ s 98 17 = σ2 98 17 ∧ s 98 18 = σ2 98 18 ∧ s 98 13 = σ2 98 13 ∧ s 98 14 = σ2 98 14 ∧ s 98 5 = ((σ2 98 5) + 1) ∧ s 98 6 = σ2 98 6 ∧ s 98 7 = σ2 98 7 ∧ s 98 8 = σ2 98 8 ∧ s 98 9 = σ2 98 9 ∧ s 101 18 = σ2 101 18 ∧ s 101 25 = σ2 101 25 ∧ s 101 43 = σ2 101 43 ∧ s = h_up s66 98 5 ((σ2 98 5) + 1)) _ (if_98_5 Is66 (by omega)) (Fs66.up rfl) ⟨es66.1, es66.2.1, es66.2.2.1, es66.2.2.2.1, es66.2.2.2.2.1, es66.2.2.2.2.2.1, rfl, es66.2.2.2.2.2.2.2.1, es66.2.2.2.2.2.2.2.2.1, es66.2.2.2.2.2.2.2.2.2.1, es66.2.2.2.2.2.2.2.2.2.2.1, es66.2.2.2.2.2.2.2.2.2.2.2.1, es66.2.2.2.2.2.2.2.2.2.2.2.2.1, es66.2.2.2.2.2.2.2.2.2.2.2.2.2.1, rfl⟩ (fun s71 Is71 Fs71 (es71 : s71 98 15 = σ2 98 15 ∧ s71 98 16 = σ2 98 16 ∧ s71 98 17 = σ2 98 17 ∧ s71 98 18 = σ2 98 18 ∧ s71 98 13 = σ2 98 13 ∧ s71 98 14 = σ2 98 14 ∧ s71 98 5 = ((σ2 98 5) + 1) ∧ s71 98 6 = σ2 98 6 ∧ s71 98 7 = σ2 98 7 ∧ s71 98 8 = σ2 98 8 ∧ s71 98 9 = σ2 98 9 ∧ s71 101 18 = σ2 101 18 ∧ s71 101 25 = σ2 101 25 ∧ s71 101 43 = σ2 101 43 ∧ s71 = h_up s66 98 5 ((σ2 98 5) + 1)) => ?_))
    clear es66
    have us71 := es71.2.2.2.2.2.2.2.2.2.2.2.2.2.2
    refine h_goto (pc' := 178) rfl rfl ?_
    refine d_toL (g_inj ns) hlw63 hRw63 (fun lvw72 memw72 hlw72 hRw72 => ?_)
    show h_T g_P (g_Y ns) 59 63 [(2, .int (Int32.ofInt (-4))), (0, .ref 63), (1, .int x1)] [] s62 _
    exact h_wk [(0, .ref 63)] ⟨rfl, trivial⟩ (kx0 _ _ Is62 Is71 Fs62 Fs71 (Int.le_antisymm (by omega) (by omega)) (Int.le_antisymm (by omega) (by omega)) (Int.le_antisymm (by omega) (by omega)) (by omega) (by omega) (fun _ => d_mk (es62.2.2.2.2.2.2.2.1) (es62.2.2.2.2.2.2.2.2.1) (es62.2.2.2.2.2.2.2.2.2.1) (es62.2.2.2.2.2.2.2.2.2.2.1) (es62.2.2.2.2.2.2.2.2.2.2.2.1) (es62.2.2.2.2.2.2.2.2.2.2.2.2.1) (fun j => (h_upo us62 rfl j).trans ((h_upo us59 rfl j).trans ((h_upi us57 j)))) (fun j => (h_upo us62 rfl j).trans ((h_upi us59 j).trans (congrArg (fun z => if j = (σ1 66 8) then (-4) else z) ((h_upo us57 rfl j))))) (fun j => (h_upo us62 rfl j).trans ((h_upo us59 rfl j).trans ((h_upo us57 rfl j)))) (fun j => (h_upo us62 rfl j).trans ((h_upo us59 rfl j).trans ((h_upo us57 rfl j)))) (fun j => (h_upo us62 rfl j).trans ((h_upo us59 rfl j).trans ((h_upo us57 rfl j)))) (fun j => (h_upo us62 rfl j).trans ((h_upo us59 rfl j).trans ((h_upo us57 rfl j)))) (fun j => (h_upo us62 rfl j).trans ((h_upo us59 rfl j).trans ((h_upo us57 rfl j)))) (fun j => (h_upo us62 rfl j).trans ((h_upo us59 rfl j).trans ((h_upo us57 rfl j)))) (fun j => (h_upo us62 rfl j).trans ((h_upo us59 rfl j).trans ((h_upo us57 rfl j)))) (fun j => (h_upo us62 rfl j).trans ((h_upo us59 rfl j).trans ((h_upo us57 rfl j)))) (es71.2.2.2.2.2.2.1) (es71.2.2.2.2.2.2.2.1) (es71.2.2.2.2.2.2.2.2.1) (es71.2.2.2.2.2.2.2.2.2.1) (es71.2.2.2.2.2.2.2.2.2.2.1) (fun j => (h_upo us71 rfl j).trans ((h_upi us66 j))) (r_one0 pr10 (by omega) (by omega) (by omega) (by omega) (by omega) (by omega) (by omega))) (Or.inr (Or.inr (Or.inl ⟨Int.le_antisymm (by omega) (by omega), Int.le_antisymm (by omega) (by omega), Int.le_antisymm (by omega) (by omega), Int.le_antisymm (by omega) (by omega), by omega⟩))) _ _ (h_al_ok ⟨rfl, trivial⟩ hlw72) hRw72)
  · show h_T g_P (g_Y ns) 59 21 [(0, .ref 63), (1, .int x1)] [] σ1 _
    refine h_aload_n (pc' := 22) rfl rfl rfl ?_
    refine h_call (sp := false) (pc' := 25) (M := [(0, .ref 63)]) rfl rfl rfl rfl rfl rfl rfl rfl ?_
    refine h_aload_n (pc' := 1) rfl rfl rfl ?_
    refine h_getI (pc' := 4) (v := σ1 63 2) rfl rfl rfl rfl rfl rfl (fun z73 hz73 => ?_)
    have tz73 := tf_63_2 hI1
    refine h_zne (tg := 22) (pc' := 7) rfl rfl rfl hz73 (fun c74 => absurd (Int.le_antisymm (by omega) (by omega)) c74) (fun c74 => ?_)
    clear hz73
    refine h_aload_n (pc' := 8) rfl rfl rfl ?_
    refine h_getR (pc' := 11) rfl rfl rfl rfl rfl ?_
    refine h_getI (pc' := 14) (v := σ1 64 3) rfl rfl rfl rfl rfl rfl (fun z75 hz75 => ?_)
    have tz75 := tf_64_3 hI1
    refine h_iconst (pc' := 15) (x := (Int32.ofInt 2)) rfl rfl rfl ?_
    refine h_cne (tg := 22) (pc' := 18) rfl rfl rfl hz75 ci_2 (fun c76 => absurd (Int.le_antisymm (by omega) (by omega)) c76) (fun c76 => ?_)
    clear hz75
    refine h_iconst (pc' := 19) (x := (Int32.ofInt 1)) rfl rfl rfl ?_
    refine h_goto (pc' := 23) rfl rfl ?_
    refine h_zret rfl rfl ci_1 (by omega) (h_Kv ?_)
    refine h_zeq (tg := 44) (pc' := 28) rfl rfl rfl ci_1 (fun c77 => absurd c77 (by omega)) (fun c77 => ?_)
    refine h_aload_n (pc' := 29) rfl rfl rfl ?_
    refine h_aload_n (pc' := 30) rfl rfl rfl ?_
    refine h_getR (pc' := 33) rfl rfl rfl rfl rfl ?_
    refine h_getI (pc' := 36) (v := σ1 66 8) rfl rfl rfl rfl rfl rfl (fun z78 hz78 => ?_)
    have tz78 := tf_66_8 hI1
    refine h_iconst (pc' := 37) (x := (Int32.ofInt 1)) rfl rfl rfl ?_
    refine h_isub (pc' := 38) rfl rfl hz78 ci_1 rfl (by omega) (by omega) (fun z79 hz79 => ?_)
    clear hz78
    refine d_toM (g_inj ns) hl2 hR2 (fun lvw80 memw80 hlw80 hRw80 => ?_)
    show h_T g_P (g_Y ns) 153 0 [(0, .ref 98), (1, .int y1)] [] σ2 _
    refine h_iload_n (pc' := 1) rfl rfl rfl ?_
    refine h_iconst (pc' := 2) (x := (Int32.ofInt 3)) rfl rfl rfl ?_
    refine h_cgt (tg := 61) (pc' := 5) rfl rfl rfl hy1 ci_3 (fun c81 => absurd c81 (by omega)) (fun c81 => ?_)
    refine h_aload_n (pc' := 6) rfl rfl rfl ?_
    refine h_getR (pc' := 9) rfl rfl rfl rfl rfl ?_
    refine h_aload_n (pc' := 10) rfl rfl rfl ?_
    refine h_getI (pc' := 13) (v := σ2 98 5) rfl rfl rfl rfl rfl rfl (fun z82 hz82 => ?_)
    have tz82 := tf_98_5 hI2
    refine h_iload_n (pc' := 14) rfl rfl rfl ?_
    refine h_iast (pc' := 15) rfl rfl rfl rfl hz82 (by omega) (by omega) hy1 (h_fgt (E := fun s => s 98 15 = σ2 98 15 ∧ s 98 16 = σ2 98 16 ∧ s 98 17 = σ2 98 17 ∧ s 98 18 = σ2 98 18 ∧ s 98 13 = σ2 98 13 ∧ s 98 14 = σ2 98 14 ∧ s 98 5 = σ2 98 5 ∧ s 98 6 = σ2 98 6 ∧ s 98 7 = σ2 98 7 ∧ s 98 8 = σ2 98 8 ∧ s 98 9 = σ2 98 9 ∧ s 101 18 = σ2 101 18 ∧ s 101 25 = σ2 101 25 ∧ s 101 43 = σ2 101 43 ∧ s = h_up σ2 101 (σ2 98 5) c1) _ (ip_101_0 hI2 (by omega) (by omega)) (F2.up rfl) ⟨rfl, rfl, rfl, rfl, rfl, rfl, rfl, rfl, rfl, rfl, rfl, h_up_n2 (by omega) rfl, h_up_n2 (by omega) rfl, h_up_n2 (by omega) rfl, rfl⟩ (fun s83 Is83 Fs83 (es83 : s83 98 15 = σ2 98 15 ∧ s83 98 16 = σ2 98 16 ∧ s83 98 17 = σ2 98 17 ∧ s83 98 18 = σ2 98 18 ∧ s83 98 13 = σ2 98 13 ∧ s83 98 14 = σ2 98 14 ∧ s83 98 5 = σ2 98 5 ∧ s83 98 6 = σ2 98 6 ∧ s83 98 7 = σ2 98 7 ∧ s83 98 8 = σ2 98 8 ∧ s83 98 9 = σ2 98 9 ∧ s83 101 18 = σ2 101 18 ∧ s83 101 25 = σ2 101 25 ∧ s83 101 43 = σ2 101 43 ∧ s83 = h_up σ2 101 (σ2 98 5) c1) => ?_))
    have us83 := es83.2.2.2.2.2.2.2.2.2.2.2.2.2.2
    clear hz82
    refine h_aload_n (pc' := 16) rfl rfl rfl ?_
    refine h_getI (pc' := 19) (v := σ2 98 17) rfl rfl rfl rfl rfl es83.2.2.1 (fun z84 hz84 => ?_)
    have tz84 := tf_98_17 hI2
    refine h_iconst (pc' := 20) (x := (Int32.ofInt 2)) rfl rfl rfl ?_
    refine h_cne (tg := 48) (pc' := 23) rfl rfl rfl hz84 ci_2 (fun c85 => absurd (Int.le_antisymm (by omega) (by omega)) c85) (fun c85 => ?_)
    clear hz84
    refine h_aload_n (pc' := 24) rfl rfl rfl ?_
    refine h_getR (pc' := 27) rfl rfl rfl rfl rfl ?_
    refine h_bipush (pc' := 29) (x := (Int32.ofInt 6)) rfl rfl cb_6 ?_
    refine h_aload_n (pc' := 30) rfl rfl rfl ?_
    refine h_getI (pc' := 33) (v := σ2 98 5) rfl rfl rfl rfl rfl es83.2.2.2.2.2.2.1 (fun z86 hz86 => ?_)
    refine h_iadd (pc' := 34) rfl rfl ci_6 hz86 rfl (by omega) (by omega) (fun z87 hz87 => ?_)
    clear hz86
    refine h_aload_n (pc' := 35) rfl rfl rfl ?_
    refine h_iconst (pc' := 36) (x := (Int32.ofInt 0)) rfl rfl rfl ?_
    refine h_aload_n (pc' := 37) rfl rfl rfl ?_
    refine h_getI (pc' := 40) (v := σ2 98 5) rfl rfl rfl rfl rfl es83.2.2.2.2.2.2.1 (fun z88 hz88 => ?_)
    refine h_iconst (pc' := 41) (x := (Int32.ofInt 1)) rfl rfl rfl ?_
    refine h_isub (pc' := 42) rfl rfl hz88 ci_1 rfl (by omega) (by omega) (fun z89 hz89 => ?_)
    clear hz88
    refine d_pcall (g_inj ns) (m1 := 58) (pc1' := 41) (M1 := [(0, .ref 63), (1, .int z79)]) (rest1 := []) (m2 := 149) (pc2' := 45) (M2 := [(0, .ref 98), (1, .int (Int32.ofInt 0)), (2, .int z89)]) (rest2 := [.int z87, .ref 101]) ⟨false, _, _, _, _, _, _, rfl, rfl, rfl, rfl, rfl, rfl, rfl⟩ ⟨false, _, _, _, _, _, _, rfl, rfl, rfl, rfl, rfl, rfl, rfl⟩ hRw80 ?_
    refine pp_num hI1 Is83 (hTL.fr (F1.mono rfl) (Fs83.mono rfl)) z79 _ hz79 z89 _ hz89 (Int.le_antisymm (by omega) (by omega)) (Int.le_antisymm (by omega) (by omega)) (Int.le_antisymm (by omega) (by omega)) (by omega) (Int.le_antisymm (by omega) (by omega)) (⟨by omega, by omega⟩) (Or.inr (Or.inr (Or.inr (Or.inl ⟨Int.le_antisymm (by omega) (by omega), Int.le_antisymm (by omega) (by omega), Int.le_antisymm (by omega) (by omega), Int.le_antisymm (by omega) (by omega), ⟨by omega, by omega⟩, ⟨by omega, by omega⟩, Int.le_antisymm (by omega) (by omega), by omega⟩)))) (fun rq90x bq90x hq90x rq90m bq90m hq90m sq90 tq90 Isq90 Itq90 Gsq90 Gtq90 yq90_0 yq90_1 yq90_2 yq90_3 yq90_4 pcq90 memq90 hRq90 => ?_)
    have Fsq90 := (Gsq90.mono (B := k_pl) rfl).tr F1
    have Ftq90 := (Gtq90.mono (B := k_pm) rfl).tr Fs83
    have esq90_6 : sq90 64 1 = σ1 64 1 := (Gsq90 64 1 rfl).trans rfl
    have esq90_7 : sq90 66 8 = σ1 66 8 := (Gsq90 66 8 rfl).trans rfl
    have esq90_8 : sq90 66 9 = σ1 66 9 := (Gsq90 66 9 rfl).trans rfl
    have esq90_9 : sq90 66 10 = σ1 66 10 := (Gsq90 66 10 rfl).trans rfl
    have esq90_10 : sq90 69 2 = σ1 69 2 := (Gsq90 69 2 rfl).trans rfl
    have esq90_11 : sq90 72 2 = σ1 72 2 := (Gsq90 72 2 rfl).trans rfl
    have esq90_12 : sq90 63 5 = σ1 63 5 := (Gsq90 63 5 rfl).trans rfl
    have etq90_6 : tq90 98 5 = σ2 98 5 := (Gtq90 98 5 rfl).trans es83.2.2.2.2.2.2.1
    have etq90_7 : tq90 98 6 = σ2 98 6 := (Gtq90 98 6 rfl).trans es83.2.2.2.2.2.2.2.1
    have etq90_8 : tq90 98 7 = σ2 98 7 := (Gtq90 98 7 rfl).trans es83.2.2.2.2.2.2.2.2.1
    have etq90_9 : tq90 98 8 = σ2 98 8 := (Gtq90 98 8 rfl).trans es83.2.2.2.2.2.2.2.2.2.1
    have etq90_10 : tq90 98 9 = σ2 98 9 := (Gtq90 98 9 rfl).trans es83.2.2.2.2.2.2.2.2.2.2.1
    have etq90_11 : tq90 101 18 = σ2 101 18 := (Gtq90 101 18 rfl).trans es83.2.2.2.2.2.2.2.2.2.2.2.1
    have etq90_12 : tq90 101 25 = σ2 101 25 := (Gtq90 101 25 rfl).trans es83.2.2.2.2.2.2.2.2.2.2.2.2.1
    have etq90_13 : tq90 101 43 = σ2 101 43 := (Gtq90 101 43 rfl).trans es83.2.2.2.2.2.2.2.2.2.2.2.2.2.1
    rcases pcq90 with pcq90 | pcq90
    · show h_T g_P (g_Y ns) 153 45 [(0, .ref 98), (1, .int y1)] [.int rq90m, .int z87, .ref 101] tq90 _
      clear hz79 hz89
      refine h_iconst (pc' := 46) (x := (Int32.ofInt 1)) rfl rfl rfl ?_
      refine h_iadd (pc' := 47) rfl rfl hq90m ci_1 rfl (by have g0 := h_rgv hq90m; omega) (by have g0 := h_rgv hq90m; omega) (fun z91 hz91 => ?_)
      clear hq90m
      refine h_iast (pc' := 48) rfl rfl rfl rfl hz87 (by omega) (by omega) hz91 (h_fgt (E := fun s => s 98 15 = tq90 98 15 ∧ s 98 16 = tq90 98 16 ∧ s 98 17 = tq90 98 17 ∧ s 98 18 = tq90 98 18 ∧ s 98 13 = tq90 98 13 ∧ s 98 14 = tq90 98 14 ∧ s 98 5 = σ2 98 5 ∧ s 98 6 = σ2 98 6 ∧ s 98 7 = σ2 98 7 ∧ s 98 8 = σ2 98 8 ∧ s 98 9 = σ2 98 9 ∧ s 101 18 = σ2 101 18 ∧ s 101 25 = σ2 101 25 ∧ s 101 43 = σ2 101 43 ∧ s = h_up tq90 101 (6 + (σ2 98 5)) (bq90m + 1)) _ (ip_101_1 Itq90 (by omega) (by omega)) (Ftq90.up rfl) ⟨rfl, rfl, rfl, rfl, rfl, rfl, etq90_6, etq90_7, etq90_8, etq90_9, etq90_10, h_up_n2 (by omega) etq90_11, h_up_n2 (by omega) etq90_12, h_up_n2 (by omega) etq90_13, rfl⟩ (fun s92 Is92 Fs92 (es92 : s92 98 15 = tq90 98 15 ∧ s92 98 16 = tq90 98 16 ∧ s92 98 17 = tq90 98 17 ∧ s92 98 18 = tq90 98 18 ∧ s92 98 13 = tq90 98 13 ∧ s92 98 14 = tq90 98 14 ∧ s92 98 5 = σ2 98 5 ∧ s92 98 6 = σ2 98 6 ∧ s92 98 7 = σ2 98 7 ∧ s92 98 8 = σ2 98 8 ∧ s92 98 9 = σ2 98 9 ∧ s92 101 18 = σ2 101 18 ∧ s92 101 25 = σ2 101 25 ∧ s92 101 43 = σ2 101 43 ∧ s92 = h_up tq90 101 (6 + (σ2 98 5)) (bq90m + 1)) => ?_))
      have us92 := es92.2.2.2.2.2.2.2.2.2.2.2.2.2.2
      clear hz87 hz91
      refine h_aload_n (pc' := 49) rfl rfl rfl ?_
      refine h_dup (pc' := 50) rfl rfl rfl ?_
      refine h_getI (pc' := 53) (v := σ2 98 5) rfl rfl rfl rfl rfl es92.2.2.2.2.2.2.1 (fun z93 hz93 => ?_)
      refine h_iconst (pc' := 54) (x := (Int32.ofInt 1)) rfl rfl rfl ?_
      refine h_iadd (pc' := 55) rfl rfl hz93 ci_1 rfl (by omega) (by omega) (fun z94 hz94 => ?_)
      clear hz93
      refine h_put (pc' := 58) rfl rfl rfl rfl rfl rfl hz94 rfl (h_fgt (E := fun s => s 98 15 = tq90 98 15 ∧ s 98 16 = tq90 98 16 ∧ s 98 17 = tq90 98 17 ∧ s 98 18 = tq90 98 18 ∧ s 98 13 = tq90 98 13 ∧ s 98 14 = tq90 98 14 ∧ s 98 5 = ((σ2 98 5) + 1) ∧ s 98 6 = σ2 98 6 ∧ s 98 7 = σ2 98 7 ∧ s 98 8 = σ2 98 8 ∧ s 98 9 = σ2 98 9 ∧ s 101 18 = σ2 101 18 ∧ s 101 25 = σ2 101 25 ∧ s 101 43 = σ2 101 43 ∧ s = h_up s92 98 5 ((σ2 98 5) + 1)) _ (if_98_5 Is92 (by omega)) (Fs92.up rfl) ⟨es92.1, es92.2.1, es92.2.2.1, es92.2.2.2.1, es92.2.2.2.2.1, es92.2.2.2.2.2.1, rfl, es92.2.2.2.2.2.2.2.1, es92.2.2.2.2.2.2.2.2.1, es92.2.2.2.2.2.2.2.2.2.1, es92.2.2.2.2.2.2.2.2.2.2.1, es92.2.2.2.2.2.2.2.2.2.2.2.1, es92.2.2.2.2.2.2.2.2.2.2.2.2.1, es92.2.2.2.2.2.2.2.2.2.2.2.2.2.1, rfl⟩ (fun s95 Is95 Fs95 (es95 : s95 98 15 = tq90 98 15 ∧ s95 98 16 = tq90 98 16 ∧ s95 98 17 = tq90 98 17 ∧ s95 98 18 = tq90 98 18 ∧ s95 98 13 = tq90 98 13 ∧ s95 98 14 = tq90 98 14 ∧ s95 98 5 = ((σ2 98 5) + 1) ∧ s95 98 6 = σ2 98 6 ∧ s95 98 7 = σ2 98 7 ∧ s95 98 8 = σ2 98 8 ∧ s95 98 9 = σ2 98 9 ∧ s95 101 18 = σ2 101 18 ∧ s95 101 25 = σ2 101 25 ∧ s95 101 43 = σ2 101 43 ∧ s95 = h_up s92 98 5 ((σ2 98 5) + 1)) => ?_))
      clear es92
      have us95 := es95.2.2.2.2.2.2.2.2.2.2.2.2.2.2
      refine h_goto (pc' := 178) rfl rfl ?_
      refine d_toL (g_inj ns) hlw80 hRq90 (fun lvw96 memw96 hlw96 hRw96 => ?_)
      show h_T g_P (g_Y ns) 59 41 [(0, .ref 63), (1, .int x1)] [.int rq90x] sq90 _
      refine h_goto (pc' := 46) rfl rfl ?_
      refine h_istore_n (pc' := 47) (M := [(2, .int rq90x), (0, .ref 63), (1, .int x1)]) rfl rfl rfl rfl ?_
      refine h_aload_n (pc' := 48) rfl rfl rfl ?_
      refine h_getI (pc' := 51) (v := sq90 63 2) rfl rfl rfl rfl rfl rfl (fun z97 hz97 => ?_)
      have tz97 := tf_63_2 Isq90
      refine h_zne (tg := 63) (pc' := 54) rfl rfl rfl hz97 (fun c98 => ?_) (fun c98 => absurd c98 (by omega))
      clear hz97
      exact h_wk [(0, .ref 63)] ⟨rfl, trivial⟩ (kx0 _ _ Isq90 Is95 Fsq90 Fs95 (Int.le_antisymm (by omega) (by omega)) (Int.le_antisymm (by omega) (by omega)) (Int.le_antisymm (by omega) (by omega)) (by omega) (by omega) (fun h => absurd h (by omega)) (Or.inl ⟨⟨by omega, by omega⟩, ⟨by omega, by omega⟩, Int.le_antisymm (by omega) (by omega), Int.le_antisymm (by omega) (by omega)⟩) _ _ (h_al_ok ⟨rfl, trivial⟩ hlw96) hRw96)
    · show h_T g_P (g_Y ns) 153 45 [(0, .ref 98), (1, .int y1)] [.int rq90m, .int z87, .ref 101] tq90 _
      clear hz79 hz89
      refine h_iconst (pc' := 46) (x := (Int32.ofInt 1)) rfl rfl rfl ?_
      refine h_iadd (pc' := 47) rfl rfl hq90m ci_1 rfl (by have g0 := h_rgv hq90m; omega) (by have g0 := h_rgv hq90m; omega) (fun z99 hz99 => ?_)
      clear hq90m
      refine h_iast (pc' := 48) rfl rfl rfl rfl hz87 (by omega) (by omega) hz99 (h_fgt (E := fun s => s 98 15 = tq90 98 15 ∧ s 98 16 = tq90 98 16 ∧ s 98 17 = tq90 98 17 ∧ s 98 18 = tq90 98 18 ∧ s 98 13 = tq90 98 13 ∧ s 98 14 = tq90 98 14 ∧ s 98 5 = σ2 98 5 ∧ s 98 6 = σ2 98 6 ∧ s 98 7 = σ2 98 7 ∧ s 98 8 = σ2 98 8 ∧ s 98 9 = σ2 98 9 ∧ s 101 18 = σ2 101 18 ∧ s 101 25 = σ2 101 25 ∧ s 101 43 = σ2 101 43 ∧ s = h_up tq90 101 (6 + (σ2 98 5)) (bq90m + 1)) _ (ip_101_1 Itq90 (by omega) (by omega)) (Ftq90.up rfl) ⟨rfl, rfl, rfl, rfl, rfl, rfl, etq90_6, etq90_7, etq90_8, etq90_9, etq90_10, h_up_n2 (by omega) etq90_11, h_up_n2 (by omega) etq90_12, h_up_n2 (by omega) etq90_13, rfl⟩ (fun s100 Is100 Fs100 (es100 : s100 98 15 = tq90 98 15 ∧ s100 98 16 = tq90 98 16 ∧ s100 98 17 = tq90 98 17 ∧ s100 98 18 = tq90 98 18 ∧ s100 98 13 = tq90 98 13 ∧ s100 98 14 = tq90 98 14 ∧ s100 98 5 = σ2 98 5 ∧ s100 98 6 = σ2 98 6 ∧ s100 98 7 = σ2 98 7 ∧ s100 98 8 = σ2 98 8 ∧ s100 98 9 = σ2 98 9 ∧ s100 101 18 = σ2 101 18 ∧ s100 101 25 = σ2 101 25 ∧ s100 101 43 = σ2 101 43 ∧ s100 = h_up tq90 101 (6 + (σ2 98 5)) (bq90m + 1)) => ?_))
      have us100 := es100.2.2.2.2.2.2.2.2.2.2.2.2.2.2
      clear hz87 hz99
      refine h_aload_n (pc' := 49) rfl rfl rfl ?_
      refine h_dup (pc' := 50) rfl rfl rfl ?_
      refine h_getI (pc' := 53) (v := σ2 98 5) rfl rfl rfl rfl rfl es100.2.2.2.2.2.2.1 (fun z101 hz101 => ?_)
      refine h_iconst (pc' := 54) (x := (Int32.ofInt 1)) rfl rfl rfl ?_
      refine h_iadd (pc' := 55) rfl rfl hz101 ci_1 rfl (by omega) (by omega) (fun z102 hz102 => ?_)
      clear hz101
      refine h_put (pc' := 58) rfl rfl rfl rfl rfl rfl hz102 rfl (h_fgt (E := fun s => s 98 15 = tq90 98 15 ∧ s 98 16 = tq90 98 16 ∧ s 98 17 = tq90 98 17 ∧ s 98 18 = tq90 98 18 ∧ s 98 13 = tq90 98 13 ∧ s 98 14 = tq90 98 14 ∧ s 98 5 = ((σ2 98 5) + 1) ∧ s 98 6 = σ2 98 6 ∧ s 98 7 = σ2 98 7 ∧ s 98 8 = σ2 98 8 ∧ s 98 9 = σ2 98 9 ∧ s 101 18 = σ2 101 18 ∧ s 101 25 = σ2 101 25 ∧ s 101 43 = σ2 101 43 ∧ s = h_up s100 98 5 ((σ2 98 5) + 1)) _ (if_98_5 Is100 (by omega)) (Fs100.up rfl) ⟨es100.1, es100.2.1, es100.2.2.1, es100.2.2.2.1, es100.2.2.2.2.1, es100.2.2.2.2.2.1, rfl, es100.2.2.2.2.2.2.2.1, es100.2.2.2.2.2.2.2.2.1, es100.2.2.2.2.2.2.2.2.2.1, es100.2.2.2.2.2.2.2.2.2.2.1, es100.2.2.2.2.2.2.2.2.2.2.2.1, es100.2.2.2.2.2.2.2.2.2.2.2.2.1, es100.2.2.2.2.2.2.2.2.2.2.2.2.2.1, rfl⟩ (fun s103 Is103 Fs103 (es103 : s103 98 15 = tq90 98 15 ∧ s103 98 16 = tq90 98 16 ∧ s103 98 17 = tq90 98 17 ∧ s103 98 18 = tq90 98 18 ∧ s103 98 13 = tq90 98 13 ∧ s103 98 14 = tq90 98 14 ∧ s103 98 5 = ((σ2 98 5) + 1) ∧ s103 98 6 = σ2 98 6 ∧ s103 98 7 = σ2 98 7 ∧ s103 98 8 = σ2 98 8 ∧ s103 98 9 = σ2 98 9 ∧ s103 101 18 = σ2 101 18 ∧ s103 101 25 = σ2 101 25 ∧ s103 101 43 = σ2 101 43 ∧ s103 = h_up s100 98 5 ((σ2 98 5) + 1)) => ?_))
      clear es100
      have us103 := es103.2.2.2.2.2.2.2.2.2.2.2.2.2.2
      refine h_goto (pc' := 178) rfl rfl ?_
      refine d_toL (g_inj ns) hlw80 hRq90 (fun lvw104 memw104 hlw104 hRw104 => ?_)
      show h_T g_P (g_Y ns) 59 41 [(0, .ref 63), (1, .int x1)] [.int rq90x] sq90 _
      refine h_goto (pc' := 46) rfl rfl ?_
      refine h_istore_n (pc' := 47) (M := [(2, .int rq90x), (0, .ref 63), (1, .int x1)]) rfl rfl rfl rfl ?_
      refine h_aload_n (pc' := 48) rfl rfl rfl ?_
      refine h_getI (pc' := 51) (v := sq90 63 2) rfl rfl rfl rfl rfl rfl (fun z105 hz105 => ?_)
      have tz105 := tf_63_2 Isq90
      refine h_zne (tg := 63) (pc' := 54) rfl rfl rfl hz105 (fun c106 => absurd (Int.le_antisymm (by omega) (by omega)) c106) (fun c106 => ?_)
      clear hz105
      refine h_aload_n (pc' := 55) rfl rfl rfl ?_
      refine h_getR (pc' := 58) rfl rfl rfl rfl rfl ?_
      refine h_iload_n (pc' := 59) rfl rfl rfl ?_
      refine h_iload_n (pc' := 60) rfl rfl rfl ?_
      refine h_call (sp := false) (pc' := 63) (M := [(0, .ref 66), (1, .int x1), (2, .int rq90x)]) rfl rfl rfl rfl rfl rfl rfl rfl ?_
      refine h_aload_n (pc' := 1) rfl rfl rfl ?_
      refine h_getI (pc' := 4) (v := σ1 66 8) rfl rfl rfl rfl rfl esq90_7 (fun z107 hz107 => ?_)
      refine h_bipush (pc' := 6) (x := (Int32.ofInt 6)) rfl rfl cb_6 ?_
      refine h_cge (tg := 39) (pc' := 9) rfl rfl rfl hz107 ci_6 (fun c108 => absurd c108 (by omega)) (fun c108 => ?_)
      clear hz107
      refine h_aload_n (pc' := 10) rfl rfl rfl ?_
      refine h_getR (pc' := 13) rfl rfl rfl rfl rfl ?_
      refine h_aload_n (pc' := 14) rfl rfl rfl ?_
      refine h_getI (pc' := 17) (v := σ1 66 8) rfl rfl rfl rfl rfl esq90_7 (fun z109 hz109 => ?_)
      refine h_iload_n (pc' := 18) rfl rfl rfl ?_
      refine h_iast (pc' := 19) rfl rfl rfl rfl hz109 (by omega) (by omega) hx1 (h_fgt (E := fun s => s 64 2 = sq90 64 2 ∧ s 64 4 = sq90 64 4 ∧ s 64 3 = sq90 64 3 ∧ s 64 5 = sq90 64 5 ∧ s 63 2 = sq90 63 2 ∧ s 63 3 = sq90 63 3 ∧ s 64 1 = σ1 64 1 ∧ s 66 8 = σ1 66 8 ∧ s 66 9 = σ1 66 9 ∧ s 66 10 = σ1 66 10 ∧ s 69 2 = σ1 69 2 ∧ s 72 2 = σ1 72 2 ∧ s 63 5 = σ1 63 5 ∧ s = h_up sq90 67 (σ1 66 8) a1) _ (in_67 Isq90 (by omega)) (Fsq90.up rfl) ⟨rfl, rfl, rfl, rfl, rfl, rfl, esq90_6, esq90_7, esq90_8, esq90_9, esq90_10, esq90_11, esq90_12, rfl⟩ (fun s110 Is110 Fs110 (es110 : s110 64 2 = sq90 64 2 ∧ s110 64 4 = sq90 64 4 ∧ s110 64 3 = sq90 64 3 ∧ s110 64 5 = sq90 64 5 ∧ s110 63 2 = sq90 63 2 ∧ s110 63 3 = sq90 63 3 ∧ s110 64 1 = σ1 64 1 ∧ s110 66 8 = σ1 66 8 ∧ s110 66 9 = σ1 66 9 ∧ s110 66 10 = σ1 66 10 ∧ s110 69 2 = σ1 69 2 ∧ s110 72 2 = σ1 72 2 ∧ s110 63 5 = σ1 63 5 ∧ s110 = h_up sq90 67 (σ1 66 8) a1) => ?_))
      have us110 := es110.2.2.2.2.2.2.2.2.2.2.2.2.2
      clear hz109
      refine h_aload_n (pc' := 20) rfl rfl rfl ?_
      refine h_getR (pc' := 23) rfl rfl rfl rfl rfl ?_
      refine h_aload_n (pc' := 24) rfl rfl rfl ?_
      refine h_getI (pc' := 27) (v := σ1 66 8) rfl rfl rfl rfl rfl es110.2.2.2.2.2.2.2.1 (fun z111 hz111 => ?_)
      refine h_iload_n (pc' := 28) rfl rfl rfl ?_
      refine h_iast (pc' := 29) rfl rfl rfl rfl hz111 (by omega) (by omega) hq90x (h_fgt (E := fun s => s 64 2 = sq90 64 2 ∧ s 64 4 = sq90 64 4 ∧ s 64 3 = sq90 64 3 ∧ s 64 5 = sq90 64 5 ∧ s 63 2 = sq90 63 2 ∧ s 63 3 = sq90 63 3 ∧ s 64 1 = σ1 64 1 ∧ s 66 8 = σ1 66 8 ∧ s 66 9 = σ1 66 9 ∧ s 66 10 = σ1 66 10 ∧ s 69 2 = σ1 69 2 ∧ s 72 2 = σ1 72 2 ∧ s 63 5 = σ1 63 5 ∧ s = h_up s110 68 (σ1 66 8) bq90x) _ (in_68 Is110 (by omega)) (Fs110.up rfl) ⟨es110.1, es110.2.1, es110.2.2.1, es110.2.2.2.1, es110.2.2.2.2.1, es110.2.2.2.2.2.1, es110.2.2.2.2.2.2.1, es110.2.2.2.2.2.2.2.1, es110.2.2.2.2.2.2.2.2.1, es110.2.2.2.2.2.2.2.2.2.1, es110.2.2.2.2.2.2.2.2.2.2.1, es110.2.2.2.2.2.2.2.2.2.2.2.1, es110.2.2.2.2.2.2.2.2.2.2.2.2.1, rfl⟩ (fun s112 Is112 Fs112 (es112 : s112 64 2 = sq90 64 2 ∧ s112 64 4 = sq90 64 4 ∧ s112 64 3 = sq90 64 3 ∧ s112 64 5 = sq90 64 5 ∧ s112 63 2 = sq90 63 2 ∧ s112 63 3 = sq90 63 3 ∧ s112 64 1 = σ1 64 1 ∧ s112 66 8 = σ1 66 8 ∧ s112 66 9 = σ1 66 9 ∧ s112 66 10 = σ1 66 10 ∧ s112 69 2 = σ1 69 2 ∧ s112 72 2 = σ1 72 2 ∧ s112 63 5 = σ1 63 5 ∧ s112 = h_up s110 68 (σ1 66 8) bq90x) => ?_))
      clear es110
      have us112 := es112.2.2.2.2.2.2.2.2.2.2.2.2.2
      clear hz111
      refine h_aload_n (pc' := 30) rfl rfl rfl ?_
      refine h_dup (pc' := 31) rfl rfl rfl ?_
      refine h_getI (pc' := 34) (v := σ1 66 8) rfl rfl rfl rfl rfl es112.2.2.2.2.2.2.2.1 (fun z113 hz113 => ?_)
      refine h_iconst (pc' := 35) (x := (Int32.ofInt 1)) rfl rfl rfl ?_
      refine h_iadd (pc' := 36) rfl rfl hz113 ci_1 rfl (by omega) (by omega) (fun z114 hz114 => ?_)
      clear hz113
      refine h_put (pc' := 39) rfl rfl rfl rfl rfl rfl hz114 rfl (h_fgt (E := fun s => s 64 2 = sq90 64 2 ∧ s 64 4 = sq90 64 4 ∧ s 64 3 = sq90 64 3 ∧ s 64 5 = sq90 64 5 ∧ s 63 2 = sq90 63 2 ∧ s 63 3 = sq90 63 3 ∧ s 64 1 = σ1 64 1 ∧ s 66 8 = ((σ1 66 8) + 1) ∧ s 66 9 = σ1 66 9 ∧ s 66 10 = σ1 66 10 ∧ s 69 2 = σ1 69 2 ∧ s 72 2 = σ1 72 2 ∧ s 63 5 = σ1 63 5 ∧ s = h_up s112 66 8 ((σ1 66 8) + 1)) _ (if_66_8 Is112 (by omega)) (Fs112.up rfl) ⟨es112.1, es112.2.1, es112.2.2.1, es112.2.2.2.1, es112.2.2.2.2.1, es112.2.2.2.2.2.1, es112.2.2.2.2.2.2.1, rfl, es112.2.2.2.2.2.2.2.2.1, es112.2.2.2.2.2.2.2.2.2.1, es112.2.2.2.2.2.2.2.2.2.2.1, es112.2.2.2.2.2.2.2.2.2.2.2.1, es112.2.2.2.2.2.2.2.2.2.2.2.2.1, rfl⟩ (fun s115 Is115 Fs115 (es115 : s115 64 2 = sq90 64 2 ∧ s115 64 4 = sq90 64 4 ∧ s115 64 3 = sq90 64 3 ∧ s115 64 5 = sq90 64 5 ∧ s115 63 2 = sq90 63 2 ∧ s115 63 3 = sq90 63 3 ∧ s115 64 1 = σ1 64 1 ∧ s115 66 8 = ((σ1 66 8) + 1) ∧ s115 66 9 = σ1 66 9 ∧ s115 66 10 = σ1 66 10 ∧ s115 69 2 = σ1 69 2 ∧ s115 72 2 = σ1 72 2 ∧ s115 63 5 = σ1 63 5 ∧ s115 = h_up s112 66 8 ((σ1 66 8) + 1)) => ?_))
      clear es112
      have us115 := es115.2.2.2.2.2.2.2.2.2.2.2.2.2
      refine h_vret rfl rfl (h_Kn ?_)
      exact h_wk [(0, .ref 63)] ⟨rfl, trivial⟩ (kx0 _ _ Is115 Is103 Fs115 Fs103 (Int.le_antisymm (by omega) (by omega)) (Int.le_antisymm (by omega) (by omega)) (Int.le_antisymm (by omega) (by omega)) (by omega) (by omega) (fun _ => d_mk (es115.2.2.2.2.2.2.2.1) (es115.2.2.2.2.2.2.2.2.1) (es115.2.2.2.2.2.2.2.2.2.1) (es115.2.2.2.2.2.2.2.2.2.2.1) (es115.2.2.2.2.2.2.2.2.2.2.2.1) (es115.2.2.2.2.2.2.2.2.2.2.2.2.1) (fun j => (h_upo us115 rfl j).trans ((h_upo us112 rfl j).trans ((h_upi us110 j).trans (congrArg (fun z => if j = (σ1 66 8) then a1 else z) ((Gsq90 67 j rfl)))))) (fun j => (h_upo us115 rfl j).trans ((h_upi us112 j).trans (congrArg (fun z => if j = (σ1 66 8) then bq90x else z) ((h_upo us110 rfl j).trans ((Gsq90 68 j rfl)))))) (fun j => (h_upo us115 rfl j).trans ((h_upo us112 rfl j).trans ((h_upo us110 rfl j).trans ((Gsq90 70 j rfl))))) (fun j => (h_upo us115 rfl j).trans ((h_upo us112 rfl j).trans ((h_upo us110 rfl j).trans ((Gsq90 71 j rfl))))) (fun j => (h_upo us115 rfl j).trans ((h_upo us112 rfl j).trans ((h_upo us110 rfl j).trans ((Gsq90 73 j rfl))))) (fun j => (h_upo us115 rfl j).trans ((h_upo us112 rfl j).trans ((h_upo us110 rfl j).trans ((Gsq90 74 j rfl))))) (fun j => (h_upo us115 rfl j).trans ((h_upo us112 rfl j).trans ((h_upo us110 rfl j).trans ((Gsq90 75 j rfl))))) (fun j => (h_upo us115 rfl j).trans ((h_upo us112 rfl j).trans ((h_upo us110 rfl j).trans ((Gsq90 76 j rfl))))) (fun j => (h_upo us115 rfl j).trans ((h_upo us112 rfl j).trans ((h_upo us110 rfl j).trans ((Gsq90 77 j rfl))))) (fun j => (h_upo us115 rfl j).trans ((h_upo us112 rfl j).trans ((h_upo us110 rfl j).trans ((Gsq90 78 j rfl))))) (es103.2.2.2.2.2.2.1) (es103.2.2.2.2.2.2.2.1) (es103.2.2.2.2.2.2.2.2.1) (es103.2.2.2.2.2.2.2.2.2.1) (es103.2.2.2.2.2.2.2.2.2.2.1) (fun j => (h_upo us103 rfl j).trans ((h_upi us100 j).trans (congrArg (fun z => if j = (6 + (σ2 98 5)) then (bq90m + 1) else z) ((Gtq90 101 j rfl).trans ((h_upi us83 j)))))) (r_one1 pr10 (by omega) (by omega) (by omega) (by omega) (by omega) (by omega) (by omega) (by omega) (by omega) (by omega))) (pcq90.elim (fun pcq90 => (Or.inr (Or.inl ⟨Int.le_antisymm (by omega) (by omega), Int.le_antisymm (by omega) (by omega), Int.le_antisymm (by omega) (by omega), Int.le_antisymm (by omega) (by omega), Int.le_antisymm (by omega) (by omega)⟩))) (fun pcq90 => (pcq90.elim (fun pcq90 => (Or.inr (Or.inr (Or.inl ⟨Int.le_antisymm (by omega) (by omega), Int.le_antisymm (by omega) (by omega), Int.le_antisymm (by omega) (by omega), Int.le_antisymm (by omega) (by omega), by omega⟩)))) (fun pcq90 => (pcq90.elim (fun pcq90 => (Or.inr (Or.inr (Or.inr (Or.inl ⟨Int.le_antisymm (by omega) (by omega), Int.le_antisymm (by omega) (by omega), Int.le_antisymm (by omega) (by omega), Int.le_antisymm (by omega) (by omega), ⟨by omega, by omega⟩, ⟨by omega, by omega⟩, Int.le_antisymm (by omega) (by omega), by omega⟩))))) (fun pcq90 => (Or.inr (Or.inr (Or.inr (Or.inr ⟨Int.le_antisymm (by omega) (by omega), Int.le_antisymm (by omega) (by omega), Int.le_antisymm (by omega) (by omega), Int.le_antisymm (by omega) (by omega), by omega, by omega⟩)))))))))) _ _ (h_al_ok ⟨rfl, trivial⟩ hlw104) hRw104)
  · show h_T g_P (g_Y ns) 59 21 [(0, .ref 63), (1, .int x1)] [] σ1 _
    refine h_aload_n (pc' := 22) rfl rfl rfl ?_
    refine h_call (sp := false) (pc' := 25) (M := [(0, .ref 63)]) rfl rfl rfl rfl rfl rfl rfl rfl ?_
    refine h_aload_n (pc' := 1) rfl rfl rfl ?_
    refine h_getI (pc' := 4) (v := σ1 63 2) rfl rfl rfl rfl rfl rfl (fun z116 hz116 => ?_)
    have tz116 := tf_63_2 hI1
    refine h_zne (tg := 22) (pc' := 7) rfl rfl rfl hz116 (fun c117 => absurd (Int.le_antisymm (by omega) (by omega)) c117) (fun c117 => ?_)
    clear hz116
    refine h_aload_n (pc' := 8) rfl rfl rfl ?_
    refine h_getR (pc' := 11) rfl rfl rfl rfl rfl ?_
    refine h_getI (pc' := 14) (v := σ1 64 3) rfl rfl rfl rfl rfl rfl (fun z118 hz118 => ?_)
    have tz118 := tf_64_3 hI1
    refine h_iconst (pc' := 15) (x := (Int32.ofInt 2)) rfl rfl rfl ?_
    refine h_cne (tg := 22) (pc' := 18) rfl rfl rfl hz118 ci_2 (fun c119 => ?_) (fun c119 => absurd c119 (by omega))
    clear hz118
    refine h_iconst (pc' := 23) (x := (Int32.ofInt 0)) rfl rfl rfl ?_
    refine h_zret rfl rfl ci_0 (by omega) (h_Kv ?_)
    refine h_zeq (tg := 44) (pc' := 28) rfl rfl rfl ci_0 (fun c120 => ?_) (fun c120 => absurd (Int.le_antisymm (by omega) (by omega)) c120)
    refine h_bipush (pc' := 46) (x := (Int32.ofInt (-4))) rfl rfl cb_m4 ?_
    refine h_istore_n (pc' := 47) (M := [(2, .int (Int32.ofInt (-4))), (0, .ref 63), (1, .int x1)]) rfl rfl rfl rfl ?_
    refine h_aload_n (pc' := 48) rfl rfl rfl ?_
    refine h_getI (pc' := 51) (v := σ1 63 2) rfl rfl rfl rfl rfl rfl (fun z121 hz121 => ?_)
    refine h_zne (tg := 63) (pc' := 54) rfl rfl rfl hz121 (fun c122 => absurd (Int.le_antisymm (by omega) (by omega)) c122) (fun c122 => ?_)
    clear hz121
    refine h_aload_n (pc' := 55) rfl rfl rfl ?_
    refine h_getR (pc' := 58) rfl rfl rfl rfl rfl ?_
    refine h_iload_n (pc' := 59) rfl rfl rfl ?_
    refine h_iload_n (pc' := 60) rfl rfl rfl ?_
    refine h_call (sp := false) (pc' := 63) (M := [(0, .ref 66), (1, .int x1), (2, .int (Int32.ofInt (-4)))]) rfl rfl rfl rfl rfl rfl rfl rfl ?_
    refine h_aload_n (pc' := 1) rfl rfl rfl ?_
    refine h_getI (pc' := 4) (v := σ1 66 8) rfl rfl rfl rfl rfl rfl (fun z123 hz123 => ?_)
    have tz123 := tf_66_8 hI1
    refine h_bipush (pc' := 6) (x := (Int32.ofInt 6)) rfl rfl cb_6 ?_
    refine h_cge (tg := 39) (pc' := 9) rfl rfl rfl hz123 ci_6 (fun c124 => absurd c124 (by omega)) (fun c124 => ?_)
    clear hz123
    refine h_aload_n (pc' := 10) rfl rfl rfl ?_
    refine h_getR (pc' := 13) rfl rfl rfl rfl rfl ?_
    refine h_aload_n (pc' := 14) rfl rfl rfl ?_
    refine h_getI (pc' := 17) (v := σ1 66 8) rfl rfl rfl rfl rfl rfl (fun z125 hz125 => ?_)
    refine h_iload_n (pc' := 18) rfl rfl rfl ?_
    refine h_iast (pc' := 19) rfl rfl rfl rfl hz125 (by omega) (by omega) hx1 (h_fgt (E := fun s => s 64 2 = σ1 64 2 ∧ s 64 4 = σ1 64 4 ∧ s 64 3 = σ1 64 3 ∧ s 64 5 = σ1 64 5 ∧ s 63 2 = σ1 63 2 ∧ s 63 3 = σ1 63 3 ∧ s 64 1 = σ1 64 1 ∧ s 66 8 = σ1 66 8 ∧ s 66 9 = σ1 66 9 ∧ s 66 10 = σ1 66 10 ∧ s 69 2 = σ1 69 2 ∧ s 72 2 = σ1 72 2 ∧ s 63 5 = σ1 63 5 ∧ s = h_up σ1 67 (σ1 66 8) a1) _ (in_67 hI1 (by omega)) (F1.up rfl) ⟨rfl, rfl, rfl, rfl, rfl, rfl, rfl, rfl, rfl, rfl, rfl, rfl, rfl, rfl⟩ (fun s126 Is126 Fs126 (es126 : s126 64 2 = σ1 64 2 ∧ s126 64 4 = σ1 64 4 ∧ s126 64 3 = σ1 64 3 ∧ s126 64 5 = σ1 64 5 ∧ s126 63 2 = σ1 63 2 ∧ s126 63 3 = σ1 63 3 ∧ s126 64 1 = σ1 64 1 ∧ s126 66 8 = σ1 66 8 ∧ s126 66 9 = σ1 66 9 ∧ s126 66 10 = σ1 66 10 ∧ s126 69 2 = σ1 69 2 ∧ s126 72 2 = σ1 72 2 ∧ s126 63 5 = σ1 63 5 ∧ s126 = h_up σ1 67 (σ1 66 8) a1) => ?_))
    have us126 := es126.2.2.2.2.2.2.2.2.2.2.2.2.2
    clear hz125
    refine h_aload_n (pc' := 20) rfl rfl rfl ?_
    refine h_getR (pc' := 23) rfl rfl rfl rfl rfl ?_
    refine h_aload_n (pc' := 24) rfl rfl rfl ?_
    refine h_getI (pc' := 27) (v := σ1 66 8) rfl rfl rfl rfl rfl es126.2.2.2.2.2.2.2.1 (fun z127 hz127 => ?_)
    refine h_iload_n (pc' := 28) rfl rfl rfl ?_
    refine h_iast (pc' := 29) rfl rfl rfl rfl hz127 (by omega) (by omega) ci_m4 (h_fgt (E := fun s => s 64 2 = σ1 64 2 ∧ s 64 4 = σ1 64 4 ∧ s 64 3 = σ1 64 3 ∧ s 64 5 = σ1 64 5 ∧ s 63 2 = σ1 63 2 ∧ s 63 3 = σ1 63 3 ∧ s 64 1 = σ1 64 1 ∧ s 66 8 = σ1 66 8 ∧ s 66 9 = σ1 66 9 ∧ s 66 10 = σ1 66 10 ∧ s 69 2 = σ1 69 2 ∧ s 72 2 = σ1 72 2 ∧ s 63 5 = σ1 63 5 ∧ s = h_up s126 68 (σ1 66 8) (-4)) _ (in_68 Is126 (by omega)) (Fs126.up rfl) ⟨es126.1, es126.2.1, es126.2.2.1, es126.2.2.2.1, es126.2.2.2.2.1, es126.2.2.2.2.2.1, es126.2.2.2.2.2.2.1, es126.2.2.2.2.2.2.2.1, es126.2.2.2.2.2.2.2.2.1, es126.2.2.2.2.2.2.2.2.2.1, es126.2.2.2.2.2.2.2.2.2.2.1, es126.2.2.2.2.2.2.2.2.2.2.2.1, es126.2.2.2.2.2.2.2.2.2.2.2.2.1, rfl⟩ (fun s128 Is128 Fs128 (es128 : s128 64 2 = σ1 64 2 ∧ s128 64 4 = σ1 64 4 ∧ s128 64 3 = σ1 64 3 ∧ s128 64 5 = σ1 64 5 ∧ s128 63 2 = σ1 63 2 ∧ s128 63 3 = σ1 63 3 ∧ s128 64 1 = σ1 64 1 ∧ s128 66 8 = σ1 66 8 ∧ s128 66 9 = σ1 66 9 ∧ s128 66 10 = σ1 66 10 ∧ s128 69 2 = σ1 69 2 ∧ s128 72 2 = σ1 72 2 ∧ s128 63 5 = σ1 63 5 ∧ s128 = h_up s126 68 (σ1 66 8) (-4)) => ?_))
    clear es126
    have us128 := es128.2.2.2.2.2.2.2.2.2.2.2.2.2
    clear hz127
    refine h_aload_n (pc' := 30) rfl rfl rfl ?_
    refine h_dup (pc' := 31) rfl rfl rfl ?_
    refine h_getI (pc' := 34) (v := σ1 66 8) rfl rfl rfl rfl rfl es128.2.2.2.2.2.2.2.1 (fun z129 hz129 => ?_)
    refine h_iconst (pc' := 35) (x := (Int32.ofInt 1)) rfl rfl rfl ?_
    refine h_iadd (pc' := 36) rfl rfl hz129 ci_1 rfl (by omega) (by omega) (fun z130 hz130 => ?_)
    clear hz129
    refine h_put (pc' := 39) rfl rfl rfl rfl rfl rfl hz130 rfl (h_fgt (E := fun s => s 64 2 = σ1 64 2 ∧ s 64 4 = σ1 64 4 ∧ s 64 3 = σ1 64 3 ∧ s 64 5 = σ1 64 5 ∧ s 63 2 = σ1 63 2 ∧ s 63 3 = σ1 63 3 ∧ s 64 1 = σ1 64 1 ∧ s 66 8 = ((σ1 66 8) + 1) ∧ s 66 9 = σ1 66 9 ∧ s 66 10 = σ1 66 10 ∧ s 69 2 = σ1 69 2 ∧ s 72 2 = σ1 72 2 ∧ s 63 5 = σ1 63 5 ∧ s = h_up s128 66 8 ((σ1 66 8) + 1)) _ (if_66_8 Is128 (by omega)) (Fs128.up rfl) ⟨es128.1, es128.2.1, es128.2.2.1, es128.2.2.2.1, es128.2.2.2.2.1, es128.2.2.2.2.2.1, es128.2.2.2.2.2.2.1, rfl, es128.2.2.2.2.2.2.2.2.1, es128.2.2.2.2.2.2.2.2.2.1, es128.2.2.2.2.2.2.2.2.2.2.1, es128.2.2.2.2.2.2.2.2.2.2.2.1, es128.2.2.2.2.2.2.2.2.2.2.2.2.1, rfl⟩ (fun s131 Is131 Fs131 (es131 : s131 64 2 = σ1 64 2 ∧ s131 64 4 = σ1 64 4 ∧ s131 64 3 = σ1 64 3 ∧ s131 64 5 = σ1 64 5 ∧ s131 63 2 = σ1 63 2 ∧ s131 63 3 = σ1 63 3 ∧ s131 64 1 = σ1 64 1 ∧ s131 66 8 = ((σ1 66 8) + 1) ∧ s131 66 9 = σ1 66 9 ∧ s131 66 10 = σ1 66 10 ∧ s131 69 2 = σ1 69 2 ∧ s131 72 2 = σ1 72 2 ∧ s131 63 5 = σ1 63 5 ∧ s131 = h_up s128 66 8 ((σ1 66 8) + 1)) => ?_))
    clear es128
    have us131 := es131.2.2.2.2.2.2.2.2.2.2.2.2.2
    refine h_vret rfl rfl (h_Kn ?_)
    refine d_toM (g_inj ns) hl2 hR2 (fun lvw132 memw132 hlw132 hRw132 => ?_)
    show h_T g_P (g_Y ns) 153 0 [(0, .ref 98), (1, .int y1)] [] σ2 _
    refine h_iload_n (pc' := 1) rfl rfl rfl ?_
    refine h_iconst (pc' := 2) (x := (Int32.ofInt 3)) rfl rfl rfl ?_
    refine h_cgt (tg := 61) (pc' := 5) rfl rfl rfl hy1 ci_3 (fun c133 => absurd c133 (by omega)) (fun c133 => ?_)
    refine h_aload_n (pc' := 6) rfl rfl rfl ?_
    refine h_getR (pc' := 9) rfl rfl rfl rfl rfl ?_
    refine h_aload_n (pc' := 10) rfl rfl rfl ?_
    refine h_getI (pc' := 13) (v := σ2 98 5) rfl rfl rfl rfl rfl rfl (fun z134 hz134 => ?_)
    have tz134 := tf_98_5 hI2
    refine h_iload_n (pc' := 14) rfl rfl rfl ?_
    refine h_iast (pc' := 15) rfl rfl rfl rfl hz134 (by omega) (by omega) hy1 (h_fgt (E := fun s => s 98 15 = σ2 98 15 ∧ s 98 16 = σ2 98 16 ∧ s 98 17 = σ2 98 17 ∧ s 98 18 = σ2 98 18 ∧ s 98 13 = σ2 98 13 ∧ s 98 14 = σ2 98 14 ∧ s 98 5 = σ2 98 5 ∧ s 98 6 = σ2 98 6 ∧ s 98 7 = σ2 98 7 ∧ s 98 8 = σ2 98 8 ∧ s 98 9 = σ2 98 9 ∧ s 101 18 = σ2 101 18 ∧ s 101 25 = σ2 101 25 ∧ s 101 43 = σ2 101 43 ∧ s = h_up σ2 101 (σ2 98 5) c1) _ (ip_101_0 hI2 (by omega) (by omega)) (F2.up rfl) ⟨rfl, rfl, rfl, rfl, rfl, rfl, rfl, rfl, rfl, rfl, rfl, h_up_n2 (by omega) rfl, h_up_n2 (by omega) rfl, h_up_n2 (by omega) rfl, rfl⟩ (fun s135 Is135 Fs135 (es135 : s135 98 15 = σ2 98 15 ∧ s135 98 16 = σ2 98 16 ∧ s135 98 17 = σ2 98 17 ∧ s135 98 18 = σ2 98 18 ∧ s135 98 13 = σ2 98 13 ∧ s135 98 14 = σ2 98 14 ∧ s135 98 5 = σ2 98 5 ∧ s135 98 6 = σ2 98 6 ∧ s135 98 7 = σ2 98 7 ∧ s135 98 8 = σ2 98 8 ∧ s135 98 9 = σ2 98 9 ∧ s135 101 18 = σ2 101 18 ∧ s135 101 25 = σ2 101 25 ∧ s135 101 43 = σ2 101 43 ∧ s135 = h_up σ2 101 (σ2 98 5) c1) => ?_))
    have us135 := es135.2.2.2.2.2.2.2.2.2.2.2.2.2.2
    clear hz134
    refine h_aload_n (pc' := 16) rfl rfl rfl ?_
    refine h_getI (pc' := 19) (v := σ2 98 17) rfl rfl rfl rfl rfl es135.2.2.1 (fun z136 hz136 => ?_)
    have tz136 := tf_98_17 hI2
    refine h_iconst (pc' := 20) (x := (Int32.ofInt 2)) rfl rfl rfl ?_
    refine h_cne (tg := 48) (pc' := 23) rfl rfl rfl hz136 ci_2 (fun c137 => ?_) (fun c137 => absurd c137 (by omega))
    clear hz136
    refine h_aload_n (pc' := 49) rfl rfl rfl ?_
    refine h_dup (pc' := 50) rfl rfl rfl ?_
    refine h_getI (pc' := 53) (v := σ2 98 5) rfl rfl rfl rfl rfl es135.2.2.2.2.2.2.1 (fun z138 hz138 => ?_)
    refine h_iconst (pc' := 54) (x := (Int32.ofInt 1)) rfl rfl rfl ?_
    refine h_iadd (pc' := 55) rfl rfl hz138 ci_1 rfl (by omega) (by omega) (fun z139 hz139 => ?_)
    clear hz138
    refine h_put (pc' := 58) rfl rfl rfl rfl rfl rfl hz139 rfl (h_fgt (E := fun s => s 98 15 = σ2 98 15 ∧ s 98 16 = σ2 98 16 ∧ s 98 17 = σ2 98 17 ∧ s 98 18 = σ2 98 18 ∧ s 98 13 = σ2 98 13 ∧ s 98 14 = σ2 98 14 ∧ s 98 5 = ((σ2 98 5) + 1) ∧ s 98 6 = σ2 98 6 ∧ s 98 7 = σ2 98 7 ∧ s 98 8 = σ2 98 8 ∧ s 98 9 = σ2 98 9 ∧ s 101 18 = σ2 101 18 ∧ s 101 25 = σ2 101 25 ∧ s 101 43 = σ2 101 43 ∧ s = h_up s135 98 5 ((σ2 98 5) + 1)) _ (if_98_5 Is135 (by omega)) (Fs135.up rfl) ⟨es135.1, es135.2.1, es135.2.2.1, es135.2.2.2.1, es135.2.2.2.2.1, es135.2.2.2.2.2.1, rfl, es135.2.2.2.2.2.2.2.1, es135.2.2.2.2.2.2.2.2.1, es135.2.2.2.2.2.2.2.2.2.1, es135.2.2.2.2.2.2.2.2.2.2.1, es135.2.2.2.2.2.2.2.2.2.2.2.1, es135.2.2.2.2.2.2.2.2.2.2.2.2.1, es135.2.2.2.2.2.2.2.2.2.2.2.2.2.1, rfl⟩ (fun s140 Is140 Fs140 (es140 : s140 98 15 = σ2 98 15 ∧ s140 98 16 = σ2 98 16 ∧ s140 98 17 = σ2 98 17 ∧ s140 98 18 = σ2 98 18 ∧ s140 98 13 = σ2 98 13 ∧ s140 98 14 = σ2 98 14 ∧ s140 98 5 = ((σ2 98 5) + 1) ∧ s140 98 6 = σ2 98 6 ∧ s140 98 7 = σ2 98 7 ∧ s140 98 8 = σ2 98 8 ∧ s140 98 9 = σ2 98 9 ∧ s140 101 18 = σ2 101 18 ∧ s140 101 25 = σ2 101 25 ∧ s140 101 43 = σ2 101 43 ∧ s140 = h_up s135 98 5 ((σ2 98 5) + 1)) => ?_))
    clear es135
    have us140 := es140.2.2.2.2.2.2.2.2.2.2.2.2.2.2
    refine h_goto (pc' := 178) rfl rfl ?_
    refine d_toL (g_inj ns) hlw132 hRw132 (fun lvw141 memw141 hlw141 hRw141 => ?_)
    show h_T g_P (g_Y ns) 59 63 [(2, .int (Int32.ofInt (-4))), (0, .ref 63), (1, .int x1)] [] s131 _
    exact h_wk [(0, .ref 63)] ⟨rfl, trivial⟩ (kx0 _ _ Is131 Is140 Fs131 Fs140 (Int.le_antisymm (by omega) (by omega)) (Int.le_antisymm (by omega) (by omega)) (Int.le_antisymm (by omega) (by omega)) (by omega) (by omega) (fun _ => d_mk (es131.2.2.2.2.2.2.2.1) (es131.2.2.2.2.2.2.2.2.1) (es131.2.2.2.2.2.2.2.2.2.1) (es131.2.2.2.2.2.2.2.2.2.2.1) (es131.2.2.2.2.2.2.2.2.2.2.2.1) (es131.2.2.2.2.2.2.2.2.2.2.2.2.1) (fun j => (h_upo us131 rfl j).trans ((h_upo us128 rfl j).trans ((h_upi us126 j)))) (fun j => (h_upo us131 rfl j).trans ((h_upi us128 j).trans (congrArg (fun z => if j = (σ1 66 8) then (-4) else z) ((h_upo us126 rfl j))))) (fun j => (h_upo us131 rfl j).trans ((h_upo us128 rfl j).trans ((h_upo us126 rfl j)))) (fun j => (h_upo us131 rfl j).trans ((h_upo us128 rfl j).trans ((h_upo us126 rfl j)))) (fun j => (h_upo us131 rfl j).trans ((h_upo us128 rfl j).trans ((h_upo us126 rfl j)))) (fun j => (h_upo us131 rfl j).trans ((h_upo us128 rfl j).trans ((h_upo us126 rfl j)))) (fun j => (h_upo us131 rfl j).trans ((h_upo us128 rfl j).trans ((h_upo us126 rfl j)))) (fun j => (h_upo us131 rfl j).trans ((h_upo us128 rfl j).trans ((h_upo us126 rfl j)))) (fun j => (h_upo us131 rfl j).trans ((h_upo us128 rfl j).trans ((h_upo us126 rfl j)))) (fun j => (h_upo us131 rfl j).trans ((h_upo us128 rfl j).trans ((h_upo us126 rfl j)))) (es140.2.2.2.2.2.2.1) (es140.2.2.2.2.2.2.2.1) (es140.2.2.2.2.2.2.2.2.1) (es140.2.2.2.2.2.2.2.2.2.1) (es140.2.2.2.2.2.2.2.2.2.2.1) (fun j => (h_upo us140 rfl j).trans ((h_upi us135 j))) (r_one0 pr10 (by omega) (by omega) (by omega) (by omega) (by omega) (by omega) (by omega))) (Or.inr (Or.inr (Or.inr (Or.inr ⟨Int.le_antisymm (by omega) (by omega), Int.le_antisymm (by omega) (by omega), Int.le_antisymm (by omega) (by omega), Int.le_antisymm (by omega) (by omega), by omega, by omega⟩)))) _ _ (h_al_ok ⟨rfl, trivial⟩ hlw141) hRw141)
