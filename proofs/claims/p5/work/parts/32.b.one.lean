set_option maxHeartbeats 100000000 in
theorem ls_one_b {ns : Nat} {σ1 σ2 : h_S} (hI1 : h_I σ1) (hI2 : h_I σ2) (hTL : d_tape σ1 σ2) (x1 : Int32) (a1 : Int) (hx1 : x1.toInt = a1) (y1 : Int32) (c1 : Int) (hy1 : y1.toInt = c1) (pr0 : σ1 64 2 = σ2 98 15) (pr1 : σ1 64 4 = σ2 98 16) (pr2 : σ1 63 2 = σ2 98 13) (pr3 : σ1 66 8 = σ2 98 5) (pr4 : σ1 66 9 = σ2 98 6) (pr5 : σ1 66 10 = σ2 101 43) (pr6 : σ1 69 2 = σ2 101 18) (pr7 : σ1 72 2 = σ2 101 25) (pr8 : σ1 63 5 = σ2 98 7) (pr9 : σ1 64 2 ≤ σ1 64 1) (pr10 : d_RD σ1 σ2) (pr11 : a1 = c1) (pr12 : 0 ≤ a1 ∧ a1 ≤ 3) (pc0 : ((σ1 63 2 = 0) ∧ (σ1 64 3 = 0) ∧ (0 ≤ σ1 66 8 ∧ σ1 66 8 ≤ 5) ∧ (σ2 98 13 = 0) ∧ (σ2 98 17 = 0) ∧ (0 ≤ σ2 98 5 ∧ σ2 98 5 ≤ 5) ∧ (σ1 64 4 = σ1 64 1)) ∨ ((σ1 63 2 = 0) ∧ (σ1 64 3 = 1) ∧ (0 ≤ σ1 66 8 ∧ σ1 66 8 ≤ 5) ∧ (σ2 98 13 = 0) ∧ (σ2 98 17 = 1) ∧ (0 ≤ σ2 98 5 ∧ σ2 98 5 ≤ 5) ∧ (σ1 64 4 < σ1 64 2)) ∨ ((σ1 63 2 = 0) ∧ (σ1 64 3 = 2) ∧ (0 ≤ σ1 66 8 ∧ σ1 66 8 ≤ 5) ∧ (σ2 98 13 = 0) ∧ (σ2 98 17 = 2) ∧ (0 ≤ σ2 98 5 ∧ σ2 98 5 ≤ 5) ∧ (0 ≤ σ1 64 5 ∧ σ1 64 5 ≤ 99) ∧ (0 ≤ σ2 98 18 ∧ σ2 98 18 ≤ 99) ∧ (σ1 64 5 = σ2 98 18) ∧ (σ1 64 4 < σ1 64 2)) ∨ ((σ1 63 2 = 0) ∧ (σ1 64 3 = 3) ∧ (0 ≤ σ1 66 8 ∧ σ1 66 8 ≤ 5) ∧ (σ2 98 13 = 0) ∧ (σ2 98 17 = 3) ∧ (0 ≤ σ2 98 5 ∧ σ2 98 5 ≤ 5) ∧ (σ1 64 4 < σ1 64 2))) {cs1 cs2 : List d_Fr} {Q : d_Q} (kx0 : ∀ (s t : h_S), h_I s → h_I t → h_F (k_in k_pl) s σ1 → h_F (k_in k_pm) t σ2 → (s 64 2 = t 98 15) → (s 64 4 = t 98 16) → (s 63 2 = t 98 13) → (s 64 2 ≤ s 64 1) → (σ1 64 2 ≤ s 64 2) → (d_ok s t) → (((1 ≤ s 63 2 ∧ s 63 2 ≤ 6) ∧ (1 ≤ t 98 13 ∧ t 98 13 ≤ 6) ∧ (s 63 2 = t 98 13) ∧ (s 63 3 = t 98 14)) ∨ ((s 63 2 = 0) ∧ (s 64 3 = 0) ∧ (t 98 13 = 0) ∧ (t 98 17 = 0) ∧ (s 64 4 = s 64 1) ∧ ((s 64 2 = σ1 64 2 ∧ s 64 3 = σ1 64 3) ∨ σ1 64 2 < s 64 2)) ∨ ((s 63 2 = 0) ∧ (s 64 3 = 1) ∧ (t 98 13 = 0) ∧ (t 98 17 = 1) ∧ (s 64 4 < s 64 2) ∧ ((s 64 2 = σ1 64 2 ∧ s 64 3 = σ1 64 3) ∨ σ1 64 2 < s 64 2)) ∨ ((s 63 2 = 0) ∧ (s 64 3 = 2) ∧ (t 98 13 = 0) ∧ (t 98 17 = 2) ∧ (0 ≤ s 64 5 ∧ s 64 5 ≤ 99) ∧ (0 ≤ t 98 18 ∧ t 98 18 ≤ 99) ∧ (s 64 5 = t 98 18) ∧ (s 64 4 < s 64 2) ∧ ((s 64 2 = σ1 64 2 ∧ s 64 3 = σ1 64 3) ∨ σ1 64 2 < s 64 2)) ∨ ((s 63 2 = 0) ∧ (s 64 3 = 3) ∧ (t 98 13 = 0) ∧ (t 98 17 = 3) ∧ (s 64 4 < s 64 2) ∧ ((s 64 2 = σ1 64 2 ∧ s 64 3 = σ1 64 3) ∨ σ1 64 2 < s 64 2))) → ∀ lv2 mem2, h_loc [(0, .ref 98)] lv2 → h_R (g_Y ns) t mem2 → h_T g_P (g_Y ns) 59 63 [(0, .ref 63)] [] s (d_cs g_P (g_Y ns) cs1 (d_L g_P (g_Y ns) (153, 178, lv2, []) cs2 mem2 Q))) : ∀ lv2 mem2, h_loc [(0, .ref 98), (1, .int y1)] lv2 → h_R (g_Y ns) σ2 mem2 → h_T g_P (g_Y ns) 59 21 [(0, .ref 63), (1, .int x1)] [] σ1 (d_cs g_P (g_Y ns) cs1 (d_L g_P (g_Y ns) (153, 0, lv2, []) cs2 mem2 Q)) := by
  intro lv2 mem2 hl2 hR2
  have hT := hTL.1
  have hL := hTL.2
  have F1 : h_F (k_in k_pl) σ1 σ1 := h_F.rf
  have F2 : h_F (k_in k_pm) σ2 σ2 := h_F.rf
  have ge0 := tf_64_1 hI1
  have ge1 := tf_66_8 hI1
  have ge2 := tf_66_9 hI1
  have ge3 := tf_66_10 hI1
  have ge4 := tf_69_2 hI1
  have ge5 := tf_72_2 hI1
  have ge6 := tf_63_5 hI1
  have ge7 := tf_63_2 hI1
  have ge8 := tf_98_8 hI2
  have ge9 := tf_98_9 hI2
  have ge10 := tf_98_13 hI2
  rcases pc0 with pc0 | pc0 | pc0 | pc0
  · show h_T g_P (g_Y ns) 59 21 [(0, .ref 63), (1, .int x1)] [] σ1 _
    refine h_aload_n (pc' := 22) rfl rfl rfl ?_
    refine h_call (sp := false) (pc' := 25) (M := [(0, .ref 63)]) rfl rfl rfl rfl rfl rfl rfl rfl ?_
    refine h_aload_n (pc' := 1) rfl rfl rfl ?_
    refine h_getI (pc' := 4) (v := σ1 63 2) rfl rfl rfl rfl rfl rfl (fun z1 hz1 => ?_)
    have tz1 := tf_63_2 hI1
    refine h_zne (tg := 22) (pc' := 7) rfl rfl rfl hz1 (fun c2 => absurd c2 (by omega)) (fun c2 => ?_)
    clear hz1
    refine h_aload_n (pc' := 8) rfl rfl rfl ?_
    refine h_getR (pc' := 11) rfl rfl rfl rfl rfl ?_
    refine h_getI (pc' := 14) (v := σ1 64 3) rfl rfl rfl rfl rfl rfl (fun z3 hz3 => ?_)
    have tz3 := tf_64_3 hI1
    refine h_iconst (pc' := 15) (x := (Int32.ofInt 2)) rfl rfl rfl ?_
    refine h_cne (tg := 22) (pc' := 18) rfl rfl rfl hz3 ci_2 (fun c4 => ?_) (fun c4 => absurd c4 (by omega))
    clear hz3
    refine h_iconst (pc' := 23) (x := (Int32.ofInt 0)) rfl rfl rfl ?_
    refine h_zret rfl rfl ci_0 (by omega) (h_Kv ?_)
    refine h_zeq (tg := 44) (pc' := 28) rfl rfl rfl ci_0 (fun c5 => ?_) (fun c5 => absurd c5 (by omega))
    refine h_bipush (pc' := 46) (x := (Int32.ofInt (-4))) rfl rfl cb_m4 ?_
    refine h_istore_n (pc' := 47) (M := [(2, .int (Int32.ofInt (-4))), (0, .ref 63), (1, .int x1)]) rfl rfl rfl rfl ?_
    refine h_aload_n (pc' := 48) rfl rfl rfl ?_
    refine h_getI (pc' := 51) (v := σ1 63 2) rfl rfl rfl rfl rfl rfl (fun z6 hz6 => ?_)
    refine h_zne (tg := 63) (pc' := 54) rfl rfl rfl hz6 (fun c7 => absurd c7 (by omega)) (fun c7 => ?_)
    clear hz6
    refine h_aload_n (pc' := 55) rfl rfl rfl ?_
    refine h_getR (pc' := 58) rfl rfl rfl rfl rfl ?_
    refine h_iload_n (pc' := 59) rfl rfl rfl ?_
    refine h_iload_n (pc' := 60) rfl rfl rfl ?_
    refine h_call (sp := false) (pc' := 63) (M := [(0, .ref 66), (1, .int x1), (2, .int (Int32.ofInt (-4)))]) rfl rfl rfl rfl rfl rfl rfl rfl ?_
    refine h_aload_n (pc' := 1) rfl rfl rfl ?_
    refine h_getI (pc' := 4) (v := σ1 66 8) rfl rfl rfl rfl rfl rfl (fun z8 hz8 => ?_)
    have tz8 := tf_66_8 hI1
    refine h_bipush (pc' := 6) (x := (Int32.ofInt 6)) rfl rfl cb_6 ?_
    refine h_cge (tg := 39) (pc' := 9) rfl rfl rfl hz8 ci_6 (fun c9 => absurd c9 (by omega)) (fun c9 => ?_)
    clear hz8
    refine h_aload_n (pc' := 10) rfl rfl rfl ?_
    refine h_getR (pc' := 13) rfl rfl rfl rfl rfl ?_
    refine h_aload_n (pc' := 14) rfl rfl rfl ?_
    refine h_getI (pc' := 17) (v := σ1 66 8) rfl rfl rfl rfl rfl rfl (fun z10 hz10 => ?_)
    refine h_iload_n (pc' := 18) rfl rfl rfl ?_
    refine h_iast (pc' := 19) rfl rfl rfl rfl hz10 (by omega) (by omega) hx1 (h_fgt (E := fun s => s 64 2 = σ1 64 2 ∧ s 64 4 = σ1 64 4 ∧ s 64 3 = σ1 64 3 ∧ s 64 5 = σ1 64 5 ∧ s 63 2 = σ1 63 2 ∧ s 63 3 = σ1 63 3 ∧ s 64 1 = σ1 64 1 ∧ s 66 8 = σ1 66 8 ∧ s 66 9 = σ1 66 9 ∧ s 66 10 = σ1 66 10 ∧ s 69 2 = σ1 69 2 ∧ s 72 2 = σ1 72 2 ∧ s 63 5 = σ1 63 5 ∧ s = h_up σ1 67 (σ1 66 8) a1) _ (in_67 hI1 (by omega)) (F1.up rfl) ⟨rfl, rfl, rfl, rfl, rfl, rfl, rfl, rfl, rfl, rfl, rfl, rfl, rfl, rfl⟩ (fun s11 Is11 Fs11 (es11 : s11 64 2 = σ1 64 2 ∧ s11 64 4 = σ1 64 4 ∧ s11 64 3 = σ1 64 3 ∧ s11 64 5 = σ1 64 5 ∧ s11 63 2 = σ1 63 2 ∧ s11 63 3 = σ1 63 3 ∧ s11 64 1 = σ1 64 1 ∧ s11 66 8 = σ1 66 8 ∧ s11 66 9 = σ1 66 9 ∧ s11 66 10 = σ1 66 10 ∧ s11 69 2 = σ1 69 2 ∧ s11 72 2 = σ1 72 2 ∧ s11 63 5 = σ1 63 5 ∧ s11 = h_up σ1 67 (σ1 66 8) a1) => ?_))
    clear hz10
    refine h_aload_n (pc' := 20) rfl rfl rfl ?_
    refine h_getR (pc' := 23) rfl rfl rfl rfl rfl ?_
    refine h_aload_n (pc' := 24) rfl rfl rfl ?_
    refine h_getI (pc' := 27) (v := σ1 66 8) rfl rfl rfl rfl rfl es11.2.2.2.2.2.2.2.1 (fun z12 hz12 => ?_)
    refine h_iload_n (pc' := 28) rfl rfl rfl ?_
    refine h_iast (pc' := 29) rfl rfl rfl rfl hz12 (by omega) (by omega) ci_m4 (h_fgt (E := fun s => s 64 2 = σ1 64 2 ∧ s 64 4 = σ1 64 4 ∧ s 64 3 = σ1 64 3 ∧ s 64 5 = σ1 64 5 ∧ s 63 2 = σ1 63 2 ∧ s 63 3 = σ1 63 3 ∧ s 64 1 = σ1 64 1 ∧ s 66 8 = σ1 66 8 ∧ s 66 9 = σ1 66 9 ∧ s 66 10 = σ1 66 10 ∧ s 69 2 = σ1 69 2 ∧ s 72 2 = σ1 72 2 ∧ s 63 5 = σ1 63 5 ∧ s = h_up s11 68 (σ1 66 8) (-4)) _ (in_68 Is11 (by omega)) (Fs11.up rfl) ⟨es11.1, es11.2.1, es11.2.2.1, es11.2.2.2.1, es11.2.2.2.2.1, es11.2.2.2.2.2.1, es11.2.2.2.2.2.2.1, es11.2.2.2.2.2.2.2.1, es11.2.2.2.2.2.2.2.2.1, es11.2.2.2.2.2.2.2.2.2.1, es11.2.2.2.2.2.2.2.2.2.2.1, es11.2.2.2.2.2.2.2.2.2.2.2.1, es11.2.2.2.2.2.2.2.2.2.2.2.2.1, rfl⟩ (fun s13 Is13 Fs13 (es13 : s13 64 2 = σ1 64 2 ∧ s13 64 4 = σ1 64 4 ∧ s13 64 3 = σ1 64 3 ∧ s13 64 5 = σ1 64 5 ∧ s13 63 2 = σ1 63 2 ∧ s13 63 3 = σ1 63 3 ∧ s13 64 1 = σ1 64 1 ∧ s13 66 8 = σ1 66 8 ∧ s13 66 9 = σ1 66 9 ∧ s13 66 10 = σ1 66 10 ∧ s13 69 2 = σ1 69 2 ∧ s13 72 2 = σ1 72 2 ∧ s13 63 5 = σ1 63 5 ∧ s13 = h_up s11 68 (σ1 66 8) (-4)) => ?_))
    clear hz12
    refine h_aload_n (pc' := 30) rfl rfl rfl ?_
    refine h_dup (pc' := 31) rfl rfl rfl ?_
    refine h_getI (pc' := 34) (v := σ1 66 8) rfl rfl rfl rfl rfl es13.2.2.2.2.2.2.2.1 (fun z14 hz14 => ?_)
    refine h_iconst (pc' := 35) (x := (Int32.ofInt 1)) rfl rfl rfl ?_
    refine h_iadd (pc' := 36) rfl rfl hz14 ci_1 rfl (by omega) (by omega) (fun z15 hz15 => ?_)
    clear hz14
    refine h_put (pc' := 39) rfl rfl rfl rfl rfl rfl hz15 rfl (h_fgt (E := fun s => s 64 2 = σ1 64 2 ∧ s 64 4 = σ1 64 4 ∧ s 64 3 = σ1 64 3 ∧ s 64 5 = σ1 64 5 ∧ s 63 2 = σ1 63 2 ∧ s 63 3 = σ1 63 3 ∧ s 64 1 = σ1 64 1 ∧ s 66 8 = ((σ1 66 8) + 1) ∧ s 66 9 = σ1 66 9 ∧ s 66 10 = σ1 66 10 ∧ s 69 2 = σ1 69 2 ∧ s 72 2 = σ1 72 2 ∧ s 63 5 = σ1 63 5 ∧ s = h_up s13 66 8 ((σ1 66 8) + 1)) _ (if_66_8 Is13 (by omega)) (Fs13.up rfl) ⟨es13.1, es13.2.1, es13.2.2.1, es13.2.2.2.1, es13.2.2.2.2.1, es13.2.2.2.2.2.1, es13.2.2.2.2.2.2.1, rfl, es13.2.2.2.2.2.2.2.2.1, es13.2.2.2.2.2.2.2.2.2.1, es13.2.2.2.2.2.2.2.2.2.2.1, es13.2.2.2.2.2.2.2.2.2.2.2.1, es13.2.2.2.2.2.2.2.2.2.2.2.2.1, rfl⟩ (fun s16 Is16 Fs16 (es16 : s16 64 2 = σ1 64 2 ∧ s16 64 4 = σ1 64 4 ∧ s16 64 3 = σ1 64 3 ∧ s16 64 5 = σ1 64 5 ∧ s16 63 2 = σ1 63 2 ∧ s16 63 3 = σ1 63 3 ∧ s16 64 1 = σ1 64 1 ∧ s16 66 8 = ((σ1 66 8) + 1) ∧ s16 66 9 = σ1 66 9 ∧ s16 66 10 = σ1 66 10 ∧ s16 69 2 = σ1 69 2 ∧ s16 72 2 = σ1 72 2 ∧ s16 63 5 = σ1 63 5 ∧ s16 = h_up s13 66 8 ((σ1 66 8) + 1)) => ?_))
    refine h_vret rfl rfl (h_Kn ?_)
    refine d_toM (g_inj ns) hl2 hR2 (fun lvw17 memw17 hlw17 hRw17 => ?_)
    show h_T g_P (g_Y ns) 153 0 [(0, .ref 98), (1, .int y1)] [] σ2 _
    refine h_iload_n (pc' := 1) rfl rfl rfl ?_
    refine h_iconst (pc' := 2) (x := (Int32.ofInt 3)) rfl rfl rfl ?_
    refine h_cgt (tg := 61) (pc' := 5) rfl rfl rfl hy1 ci_3 (fun c18 => absurd c18 (by omega)) (fun c18 => ?_)
    refine h_aload_n (pc' := 6) rfl rfl rfl ?_
    refine h_getR (pc' := 9) rfl rfl rfl rfl rfl ?_
    refine h_aload_n (pc' := 10) rfl rfl rfl ?_
    refine h_getI (pc' := 13) (v := σ2 98 5) rfl rfl rfl rfl rfl rfl (fun z19 hz19 => ?_)
    have tz19 := tf_98_5 hI2
    refine h_iload_n (pc' := 14) rfl rfl rfl ?_
    refine h_iast (pc' := 15) rfl rfl rfl rfl hz19 (by omega) (by omega) hy1 (h_fgt (E := fun s => s 98 15 = σ2 98 15 ∧ s 98 16 = σ2 98 16 ∧ s 98 17 = σ2 98 17 ∧ s 98 18 = σ2 98 18 ∧ s 98 13 = σ2 98 13 ∧ s 98 14 = σ2 98 14 ∧ s 98 5 = σ2 98 5 ∧ s 98 6 = σ2 98 6 ∧ s 98 7 = σ2 98 7 ∧ s 98 8 = σ2 98 8 ∧ s 98 9 = σ2 98 9 ∧ s 101 18 = σ2 101 18 ∧ s 101 25 = σ2 101 25 ∧ s 101 43 = σ2 101 43 ∧ s = h_up σ2 101 (σ2 98 5) c1) _ (ip_101_0 hI2 (by omega) (by omega)) (F2.up rfl) ⟨rfl, rfl, rfl, rfl, rfl, rfl, rfl, rfl, rfl, rfl, rfl, h_up_n2 (by omega) rfl, h_up_n2 (by omega) rfl, h_up_n2 (by omega) rfl, rfl⟩ (fun s20 Is20 Fs20 (es20 : s20 98 15 = σ2 98 15 ∧ s20 98 16 = σ2 98 16 ∧ s20 98 17 = σ2 98 17 ∧ s20 98 18 = σ2 98 18 ∧ s20 98 13 = σ2 98 13 ∧ s20 98 14 = σ2 98 14 ∧ s20 98 5 = σ2 98 5 ∧ s20 98 6 = σ2 98 6 ∧ s20 98 7 = σ2 98 7 ∧ s20 98 8 = σ2 98 8 ∧ s20 98 9 = σ2 98 9 ∧ s20 101 18 = σ2 101 18 ∧ s20 101 25 = σ2 101 25 ∧ s20 101 43 = σ2 101 43 ∧ s20 = h_up σ2 101 (σ2 98 5) c1) => ?_))
    clear hz19
    refine h_aload_n (pc' := 16) rfl rfl rfl ?_
    refine h_getI (pc' := 19) (v := σ2 98 17) rfl rfl rfl rfl rfl es20.2.2.1 (fun z21 hz21 => ?_)
    have tz21 := tf_98_17 hI2
    refine h_iconst (pc' := 20) (x := (Int32.ofInt 2)) rfl rfl rfl ?_
    refine h_cne (tg := 48) (pc' := 23) rfl rfl rfl hz21 ci_2 (fun c22 => ?_) (fun c22 => absurd c22 (by omega))
    clear hz21
    refine h_aload_n (pc' := 49) rfl rfl rfl ?_
    refine h_dup (pc' := 50) rfl rfl rfl ?_
    refine h_getI (pc' := 53) (v := σ2 98 5) rfl rfl rfl rfl rfl es20.2.2.2.2.2.2.1 (fun z23 hz23 => ?_)
    refine h_iconst (pc' := 54) (x := (Int32.ofInt 1)) rfl rfl rfl ?_
    refine h_iadd (pc' := 55) rfl rfl hz23 ci_1 rfl (by omega) (by omega) (fun z24 hz24 => ?_)
    clear hz23
    refine h_put (pc' := 58) rfl rfl rfl rfl rfl rfl hz24 rfl (h_fgt (E := fun s => s 98 15 = σ2 98 15 ∧ s 98 16 = σ2 98 16 ∧ s 98 17 = σ2 98 17 ∧ s 98 18 = σ2 98 18 ∧ s 98 13 = σ2 98 13 ∧ s 98 14 = σ2 98 14 ∧ s 98 5 = ((σ2 98 5) + 1) ∧ s 98 6 = σ2 98 6 ∧ s 98 7 = σ2 98 7 ∧ s 98 8 = σ2 98 8 ∧ s 98 9 = σ2 98 9 ∧ s 101 18 = σ2 101 18 ∧ s 101 25 = σ2 101 25 ∧ s 101 43 = σ2 101 43 ∧ s = h_up s20 98 5 ((σ2 98 5) + 1)) _ (if_98_5 Is20 (by omega)) (Fs20.up rfl) ⟨es20.1, es20.2.1, es20.2.2.1, es20.2.2.2.1, es20.2.2.2.2.1, es20.2.2.2.2.2.1, rfl, es20.2.2.2.2.2.2.2.1, es20.2.2.2.2.2.2.2.2.1, es20.2.2.2.2.2.2.2.2.2.1, es20.2.2.2.2.2.2.2.2.2.2.1, es20.2.2.2.2.2.2.2.2.2.2.2.1, es20.2.2.2.2.2.2.2.2.2.2.2.2.1, es20.2.2.2.2.2.2.2.2.2.2.2.2.2.1, rfl⟩ (fun s25 Is25 Fs25 (es25 : s25 98 15 = σ2 98 15 ∧ s25 98 16 = σ2 98 16 ∧ s25 98 17 = σ2 98 17 ∧ s25 98 18 = σ2 98 18 ∧ s25 98 13 = σ2 98 13 ∧ s25 98 14 = σ2 98 14 ∧ s25 98 5 = ((σ2 98 5) + 1) ∧ s25 98 6 = σ2 98 6 ∧ s25 98 7 = σ2 98 7 ∧ s25 98 8 = σ2 98 8 ∧ s25 98 9 = σ2 98 9 ∧ s25 101 18 = σ2 101 18 ∧ s25 101 25 = σ2 101 25 ∧ s25 101 43 = σ2 101 43 ∧ s25 = h_up s20 98 5 ((σ2 98 5) + 1)) => ?_))
    refine h_goto (pc' := 178) rfl rfl ?_
    refine d_toL (g_inj ns) hlw17 hRw17 (fun lvw26 memw26 hlw26 hRw26 => ?_)
    show h_T g_P (g_Y ns) 59 63 [(2, .int (Int32.ofInt (-4))), (0, .ref 63), (1, .int x1)] [] s16 _
    exact h_wk [(0, .ref 63)] ⟨rfl, trivial⟩ (kx0 _ _ Is16 Is25 Fs16 Fs25 (by omega) (by omega) (by omega) (by omega) (by omega) (fun _ => d_mk (es16.2.2.2.2.2.2.2.1) (es16.2.2.2.2.2.2.2.2.1) (es16.2.2.2.2.2.2.2.2.2.1) (es16.2.2.2.2.2.2.2.2.2.2.1) (es16.2.2.2.2.2.2.2.2.2.2.2.1) (es16.2.2.2.2.2.2.2.2.2.2.2.2.1) (fun j => (h_upo es16.2.2.2.2.2.2.2.2.2.2.2.2.2 rfl j).trans ((h_upo es13.2.2.2.2.2.2.2.2.2.2.2.2.2 rfl j).trans ((h_upi es11.2.2.2.2.2.2.2.2.2.2.2.2.2 j)))) (fun j => (h_upo es16.2.2.2.2.2.2.2.2.2.2.2.2.2 rfl j).trans ((h_upi es13.2.2.2.2.2.2.2.2.2.2.2.2.2 j).trans (congrArg (fun z => if j = (σ1 66 8) then (-4) else z) ((h_upo es11.2.2.2.2.2.2.2.2.2.2.2.2.2 rfl j))))) (fun j => (h_upo es16.2.2.2.2.2.2.2.2.2.2.2.2.2 rfl j).trans ((h_upo es13.2.2.2.2.2.2.2.2.2.2.2.2.2 rfl j).trans ((h_upo es11.2.2.2.2.2.2.2.2.2.2.2.2.2 rfl j)))) (fun j => (h_upo es16.2.2.2.2.2.2.2.2.2.2.2.2.2 rfl j).trans ((h_upo es13.2.2.2.2.2.2.2.2.2.2.2.2.2 rfl j).trans ((h_upo es11.2.2.2.2.2.2.2.2.2.2.2.2.2 rfl j)))) (fun j => (h_upo es16.2.2.2.2.2.2.2.2.2.2.2.2.2 rfl j).trans ((h_upo es13.2.2.2.2.2.2.2.2.2.2.2.2.2 rfl j).trans ((h_upo es11.2.2.2.2.2.2.2.2.2.2.2.2.2 rfl j)))) (fun j => (h_upo es16.2.2.2.2.2.2.2.2.2.2.2.2.2 rfl j).trans ((h_upo es13.2.2.2.2.2.2.2.2.2.2.2.2.2 rfl j).trans ((h_upo es11.2.2.2.2.2.2.2.2.2.2.2.2.2 rfl j)))) (fun j => (h_upo es16.2.2.2.2.2.2.2.2.2.2.2.2.2 rfl j).trans ((h_upo es13.2.2.2.2.2.2.2.2.2.2.2.2.2 rfl j).trans ((h_upo es11.2.2.2.2.2.2.2.2.2.2.2.2.2 rfl j)))) (fun j => (h_upo es16.2.2.2.2.2.2.2.2.2.2.2.2.2 rfl j).trans ((h_upo es13.2.2.2.2.2.2.2.2.2.2.2.2.2 rfl j).trans ((h_upo es11.2.2.2.2.2.2.2.2.2.2.2.2.2 rfl j)))) (fun j => (h_upo es16.2.2.2.2.2.2.2.2.2.2.2.2.2 rfl j).trans ((h_upo es13.2.2.2.2.2.2.2.2.2.2.2.2.2 rfl j).trans ((h_upo es11.2.2.2.2.2.2.2.2.2.2.2.2.2 rfl j)))) (fun j => (h_upo es16.2.2.2.2.2.2.2.2.2.2.2.2.2 rfl j).trans ((h_upo es13.2.2.2.2.2.2.2.2.2.2.2.2.2 rfl j).trans ((h_upo es11.2.2.2.2.2.2.2.2.2.2.2.2.2 rfl j)))) (es25.2.2.2.2.2.2.1) (es25.2.2.2.2.2.2.2.1) (es25.2.2.2.2.2.2.2.2.1) (es25.2.2.2.2.2.2.2.2.2.1) (es25.2.2.2.2.2.2.2.2.2.2.1) (fun j => (h_upo es25.2.2.2.2.2.2.2.2.2.2.2.2.2.2 rfl j).trans ((h_upi es20.2.2.2.2.2.2.2.2.2.2.2.2.2.2 j))) (r_one0 pr10 (by omega) (by omega) (by omega) (by omega) (by omega) (by omega) (by omega))) (Or.inr (Or.inl ⟨by omega, by omega, by omega, by omega, by omega, by omega⟩)) _ _ (h_al_ok ⟨rfl, trivial⟩ hlw26) hRw26)
  · show h_T g_P (g_Y ns) 59 21 [(0, .ref 63), (1, .int x1)] [] σ1 _
    refine h_aload_n (pc' := 22) rfl rfl rfl ?_
    refine h_call (sp := false) (pc' := 25) (M := [(0, .ref 63)]) rfl rfl rfl rfl rfl rfl rfl rfl ?_
    refine h_aload_n (pc' := 1) rfl rfl rfl ?_
    refine h_getI (pc' := 4) (v := σ1 63 2) rfl rfl rfl rfl rfl rfl (fun z27 hz27 => ?_)
    have tz27 := tf_63_2 hI1
    refine h_zne (tg := 22) (pc' := 7) rfl rfl rfl hz27 (fun c28 => absurd c28 (by omega)) (fun c28 => ?_)
    clear hz27
    refine h_aload_n (pc' := 8) rfl rfl rfl ?_
    refine h_getR (pc' := 11) rfl rfl rfl rfl rfl ?_
    refine h_getI (pc' := 14) (v := σ1 64 3) rfl rfl rfl rfl rfl rfl (fun z29 hz29 => ?_)
    have tz29 := tf_64_3 hI1
    refine h_iconst (pc' := 15) (x := (Int32.ofInt 2)) rfl rfl rfl ?_
    refine h_cne (tg := 22) (pc' := 18) rfl rfl rfl hz29 ci_2 (fun c30 => ?_) (fun c30 => absurd c30 (by omega))
    clear hz29
    refine h_iconst (pc' := 23) (x := (Int32.ofInt 0)) rfl rfl rfl ?_
    refine h_zret rfl rfl ci_0 (by omega) (h_Kv ?_)
    refine h_zeq (tg := 44) (pc' := 28) rfl rfl rfl ci_0 (fun c31 => ?_) (fun c31 => absurd c31 (by omega))
    refine h_bipush (pc' := 46) (x := (Int32.ofInt (-4))) rfl rfl cb_m4 ?_
    refine h_istore_n (pc' := 47) (M := [(2, .int (Int32.ofInt (-4))), (0, .ref 63), (1, .int x1)]) rfl rfl rfl rfl ?_
    refine h_aload_n (pc' := 48) rfl rfl rfl ?_
    refine h_getI (pc' := 51) (v := σ1 63 2) rfl rfl rfl rfl rfl rfl (fun z32 hz32 => ?_)
    refine h_zne (tg := 63) (pc' := 54) rfl rfl rfl hz32 (fun c33 => absurd c33 (by omega)) (fun c33 => ?_)
    clear hz32
    refine h_aload_n (pc' := 55) rfl rfl rfl ?_
    refine h_getR (pc' := 58) rfl rfl rfl rfl rfl ?_
    refine h_iload_n (pc' := 59) rfl rfl rfl ?_
    refine h_iload_n (pc' := 60) rfl rfl rfl ?_
    refine h_call (sp := false) (pc' := 63) (M := [(0, .ref 66), (1, .int x1), (2, .int (Int32.ofInt (-4)))]) rfl rfl rfl rfl rfl rfl rfl rfl ?_
    refine h_aload_n (pc' := 1) rfl rfl rfl ?_
    refine h_getI (pc' := 4) (v := σ1 66 8) rfl rfl rfl rfl rfl rfl (fun z34 hz34 => ?_)
    have tz34 := tf_66_8 hI1
    refine h_bipush (pc' := 6) (x := (Int32.ofInt 6)) rfl rfl cb_6 ?_
    refine h_cge (tg := 39) (pc' := 9) rfl rfl rfl hz34 ci_6 (fun c35 => absurd c35 (by omega)) (fun c35 => ?_)
    clear hz34
    refine h_aload_n (pc' := 10) rfl rfl rfl ?_
    refine h_getR (pc' := 13) rfl rfl rfl rfl rfl ?_
    refine h_aload_n (pc' := 14) rfl rfl rfl ?_
    refine h_getI (pc' := 17) (v := σ1 66 8) rfl rfl rfl rfl rfl rfl (fun z36 hz36 => ?_)
    refine h_iload_n (pc' := 18) rfl rfl rfl ?_
    refine h_iast (pc' := 19) rfl rfl rfl rfl hz36 (by omega) (by omega) hx1 (h_fgt (E := fun s => s 64 2 = σ1 64 2 ∧ s 64 4 = σ1 64 4 ∧ s 64 3 = σ1 64 3 ∧ s 64 5 = σ1 64 5 ∧ s 63 2 = σ1 63 2 ∧ s 63 3 = σ1 63 3 ∧ s 64 1 = σ1 64 1 ∧ s 66 8 = σ1 66 8 ∧ s 66 9 = σ1 66 9 ∧ s 66 10 = σ1 66 10 ∧ s 69 2 = σ1 69 2 ∧ s 72 2 = σ1 72 2 ∧ s 63 5 = σ1 63 5 ∧ s = h_up σ1 67 (σ1 66 8) a1) _ (in_67 hI1 (by omega)) (F1.up rfl) ⟨rfl, rfl, rfl, rfl, rfl, rfl, rfl, rfl, rfl, rfl, rfl, rfl, rfl, rfl⟩ (fun s37 Is37 Fs37 (es37 : s37 64 2 = σ1 64 2 ∧ s37 64 4 = σ1 64 4 ∧ s37 64 3 = σ1 64 3 ∧ s37 64 5 = σ1 64 5 ∧ s37 63 2 = σ1 63 2 ∧ s37 63 3 = σ1 63 3 ∧ s37 64 1 = σ1 64 1 ∧ s37 66 8 = σ1 66 8 ∧ s37 66 9 = σ1 66 9 ∧ s37 66 10 = σ1 66 10 ∧ s37 69 2 = σ1 69 2 ∧ s37 72 2 = σ1 72 2 ∧ s37 63 5 = σ1 63 5 ∧ s37 = h_up σ1 67 (σ1 66 8) a1) => ?_))
    clear hz36
    refine h_aload_n (pc' := 20) rfl rfl rfl ?_
    refine h_getR (pc' := 23) rfl rfl rfl rfl rfl ?_
    refine h_aload_n (pc' := 24) rfl rfl rfl ?_
    refine h_getI (pc' := 27) (v := σ1 66 8) rfl rfl rfl rfl rfl es37.2.2.2.2.2.2.2.1 (fun z38 hz38 => ?_)
    refine h_iload_n (pc' := 28) rfl rfl rfl ?_
    refine h_iast (pc' := 29) rfl rfl rfl rfl hz38 (by omega) (by omega) ci_m4 (h_fgt (E := fun s => s 64 2 = σ1 64 2 ∧ s 64 4 = σ1 64 4 ∧ s 64 3 = σ1 64 3 ∧ s 64 5 = σ1 64 5 ∧ s 63 2 = σ1 63 2 ∧ s 63 3 = σ1 63 3 ∧ s 64 1 = σ1 64 1 ∧ s 66 8 = σ1 66 8 ∧ s 66 9 = σ1 66 9 ∧ s 66 10 = σ1 66 10 ∧ s 69 2 = σ1 69 2 ∧ s 72 2 = σ1 72 2 ∧ s 63 5 = σ1 63 5 ∧ s = h_up s37 68 (σ1 66 8) (-4)) _ (in_68 Is37 (by omega)) (Fs37.up rfl) ⟨es37.1, es37.2.1, es37.2.2.1, es37.2.2.2.1, es37.2.2.2.2.1, es37.2.2.2.2.2.1, es37.2.2.2.2.2.2.1, es37.2.2.2.2.2.2.2.1, es37.2.2.2.2.2.2.2.2.1, es37.2.2.2.2.2.2.2.2.2.1, es37.2.2.2.2.2.2.2.2.2.2.1, es37.2.2.2.2.2.2.2.2.2.2.2.1, es37.2.2.2.2.2.2.2.2.2.2.2.2.1, rfl⟩ (fun s39 Is39 Fs39 (es39 : s39 64 2 = σ1 64 2 ∧ s39 64 4 = σ1 64 4 ∧ s39 64 3 = σ1 64 3 ∧ s39 64 5 = σ1 64 5 ∧ s39 63 2 = σ1 63 2 ∧ s39 63 3 = σ1 63 3 ∧ s39 64 1 = σ1 64 1 ∧ s39 66 8 = σ1 66 8 ∧ s39 66 9 = σ1 66 9 ∧ s39 66 10 = σ1 66 10 ∧ s39 69 2 = σ1 69 2 ∧ s39 72 2 = σ1 72 2 ∧ s39 63 5 = σ1 63 5 ∧ s39 = h_up s37 68 (σ1 66 8) (-4)) => ?_))
    clear hz38
    refine h_aload_n (pc' := 30) rfl rfl rfl ?_
    refine h_dup (pc' := 31) rfl rfl rfl ?_
    refine h_getI (pc' := 34) (v := σ1 66 8) rfl rfl rfl rfl rfl es39.2.2.2.2.2.2.2.1 (fun z40 hz40 => ?_)
    refine h_iconst (pc' := 35) (x := (Int32.ofInt 1)) rfl rfl rfl ?_
    refine h_iadd (pc' := 36) rfl rfl hz40 ci_1 rfl (by omega) (by omega) (fun z41 hz41 => ?_)
    clear hz40
    refine h_put (pc' := 39) rfl rfl rfl rfl rfl rfl hz41 rfl (h_fgt (E := fun s => s 64 2 = σ1 64 2 ∧ s 64 4 = σ1 64 4 ∧ s 64 3 = σ1 64 3 ∧ s 64 5 = σ1 64 5 ∧ s 63 2 = σ1 63 2 ∧ s 63 3 = σ1 63 3 ∧ s 64 1 = σ1 64 1 ∧ s 66 8 = ((σ1 66 8) + 1) ∧ s 66 9 = σ1 66 9 ∧ s 66 10 = σ1 66 10 ∧ s 69 2 = σ1 69 2 ∧ s 72 2 = σ1 72 2 ∧ s 63 5 = σ1 63 5 ∧ s = h_up s39 66 8 ((σ1 66 8) + 1)) _ (if_66_8 Is39 (by omega)) (Fs39.up rfl) ⟨es39.1, es39.2.1, es39.2.2.1, es39.2.2.2.1, es39.2.2.2.2.1, es39.2.2.2.2.2.1, es39.2.2.2.2.2.2.1, rfl, es39.2.2.2.2.2.2.2.2.1, es39.2.2.2.2.2.2.2.2.2.1, es39.2.2.2.2.2.2.2.2.2.2.1, es39.2.2.2.2.2.2.2.2.2.2.2.1, es39.2.2.2.2.2.2.2.2.2.2.2.2.1, rfl⟩ (fun s42 Is42 Fs42 (es42 : s42 64 2 = σ1 64 2 ∧ s42 64 4 = σ1 64 4 ∧ s42 64 3 = σ1 64 3 ∧ s42 64 5 = σ1 64 5 ∧ s42 63 2 = σ1 63 2 ∧ s42 63 3 = σ1 63 3 ∧ s42 64 1 = σ1 64 1 ∧ s42 66 8 = ((σ1 66 8) + 1) ∧ s42 66 9 = σ1 66 9 ∧ s42 66 10 = σ1 66 10 ∧ s42 69 2 = σ1 69 2 ∧ s42 72 2 = σ1 72 2 ∧ s42 63 5 = σ1 63 5 ∧ s42 = h_up s39 66 8 ((σ1 66 8) + 1)) => ?_))
    refine h_vret rfl rfl (h_Kn ?_)
    refine d_toM (g_inj ns) hl2 hR2 (fun lvw43 memw43 hlw43 hRw43 => ?_)
    show h_T g_P (g_Y ns) 153 0 [(0, .ref 98), (1, .int y1)] [] σ2 _
    refine h_iload_n (pc' := 1) rfl rfl rfl ?_
    refine h_iconst (pc' := 2) (x := (Int32.ofInt 3)) rfl rfl rfl ?_
    refine h_cgt (tg := 61) (pc' := 5) rfl rfl rfl hy1 ci_3 (fun c44 => absurd c44 (by omega)) (fun c44 => ?_)
    refine h_aload_n (pc' := 6) rfl rfl rfl ?_
    refine h_getR (pc' := 9) rfl rfl rfl rfl rfl ?_
    refine h_aload_n (pc' := 10) rfl rfl rfl ?_
    refine h_getI (pc' := 13) (v := σ2 98 5) rfl rfl rfl rfl rfl rfl (fun z45 hz45 => ?_)
    have tz45 := tf_98_5 hI2
    refine h_iload_n (pc' := 14) rfl rfl rfl ?_
    refine h_iast (pc' := 15) rfl rfl rfl rfl hz45 (by omega) (by omega) hy1 (h_fgt (E := fun s => s 98 15 = σ2 98 15 ∧ s 98 16 = σ2 98 16 ∧ s 98 17 = σ2 98 17 ∧ s 98 18 = σ2 98 18 ∧ s 98 13 = σ2 98 13 ∧ s 98 14 = σ2 98 14 ∧ s 98 5 = σ2 98 5 ∧ s 98 6 = σ2 98 6 ∧ s 98 7 = σ2 98 7 ∧ s 98 8 = σ2 98 8 ∧ s 98 9 = σ2 98 9 ∧ s 101 18 = σ2 101 18 ∧ s 101 25 = σ2 101 25 ∧ s 101 43 = σ2 101 43 ∧ s = h_up σ2 101 (σ2 98 5) c1) _ (ip_101_0 hI2 (by omega) (by omega)) (F2.up rfl) ⟨rfl, rfl, rfl, rfl, rfl, rfl, rfl, rfl, rfl, rfl, rfl, h_up_n2 (by omega) rfl, h_up_n2 (by omega) rfl, h_up_n2 (by omega) rfl, rfl⟩ (fun s46 Is46 Fs46 (es46 : s46 98 15 = σ2 98 15 ∧ s46 98 16 = σ2 98 16 ∧ s46 98 17 = σ2 98 17 ∧ s46 98 18 = σ2 98 18 ∧ s46 98 13 = σ2 98 13 ∧ s46 98 14 = σ2 98 14 ∧ s46 98 5 = σ2 98 5 ∧ s46 98 6 = σ2 98 6 ∧ s46 98 7 = σ2 98 7 ∧ s46 98 8 = σ2 98 8 ∧ s46 98 9 = σ2 98 9 ∧ s46 101 18 = σ2 101 18 ∧ s46 101 25 = σ2 101 25 ∧ s46 101 43 = σ2 101 43 ∧ s46 = h_up σ2 101 (σ2 98 5) c1) => ?_))
    clear hz45
    refine h_aload_n (pc' := 16) rfl rfl rfl ?_
    refine h_getI (pc' := 19) (v := σ2 98 17) rfl rfl rfl rfl rfl es46.2.2.1 (fun z47 hz47 => ?_)
    have tz47 := tf_98_17 hI2
    refine h_iconst (pc' := 20) (x := (Int32.ofInt 2)) rfl rfl rfl ?_
    refine h_cne (tg := 48) (pc' := 23) rfl rfl rfl hz47 ci_2 (fun c48 => ?_) (fun c48 => absurd c48 (by omega))
    clear hz47
    refine h_aload_n (pc' := 49) rfl rfl rfl ?_
    refine h_dup (pc' := 50) rfl rfl rfl ?_
    refine h_getI (pc' := 53) (v := σ2 98 5) rfl rfl rfl rfl rfl es46.2.2.2.2.2.2.1 (fun z49 hz49 => ?_)
    refine h_iconst (pc' := 54) (x := (Int32.ofInt 1)) rfl rfl rfl ?_
    refine h_iadd (pc' := 55) rfl rfl hz49 ci_1 rfl (by omega) (by omega) (fun z50 hz50 => ?_)
    clear hz49
    refine h_put (pc' := 58) rfl rfl rfl rfl rfl rfl hz50 rfl (h_fgt (E := fun s => s 98 15 = σ2 98 15 ∧ s 98 16 = σ2 98 16 ∧ s 98 17 = σ2 98 17 ∧ s 98 18 = σ2 98 18 ∧ s 98 13 = σ2 98 13 ∧ s 98 14 = σ2 98 14 ∧ s 98 5 = ((σ2 98 5) + 1) ∧ s 98 6 = σ2 98 6 ∧ s 98 7 = σ2 98 7 ∧ s 98 8 = σ2 98 8 ∧ s 98 9 = σ2 98 9 ∧ s 101 18 = σ2 101 18 ∧ s 101 25 = σ2 101 25 ∧ s 101 43 = σ2 101 43 ∧ s = h_up s46 98 5 ((σ2 98 5) + 1)) _ (if_98_5 Is46 (by omega)) (Fs46.up rfl) ⟨es46.1, es46.2.1, es46.2.2.1, es46.2.2.2.1, es46.2.2.2.2.1, es46.2.2.2.2.2.1, rfl, es46.2.2.2.2.2.2.2.1, es46.2.2.2.2.2.2.2.2.1, es46.2.2.2.2.2.2.2.2.2.1, es46.2.2.2.2.2.2.2.2.2.2.1, es46.2.2.2.2.2.2.2.2.2.2.2.1, es46.2.2.2.2.2.2.2.2.2.2.2.2.1, es46.2.2.2.2.2.2.2.2.2.2.2.2.2.1, rfl⟩ (fun s51 Is51 Fs51 (es51 : s51 98 15 = σ2 98 15 ∧ s51 98 16 = σ2 98 16 ∧ s51 98 17 = σ2 98 17 ∧ s51 98 18 = σ2 98 18 ∧ s51 98 13 = σ2 98 13 ∧ s51 98 14 = σ2 98 14 ∧ s51 98 5 = ((σ2 98 5) + 1) ∧ s51 98 6 = σ2 98 6 ∧ s51 98 7 = σ2 98 7 ∧ s51 98 8 = σ2 98 8 ∧ s51 98 9 = σ2 98 9 ∧ s51 101 18 = σ2 101 18 ∧ s51 101 25 = σ2 101 25 ∧ s51 101 43 = σ2 101 43 ∧ s51 = h_up s46 98 5 ((σ2 98 5) + 1)) => ?_))
    refine h_goto (pc' := 178) rfl rfl ?_
    refine d_toL (g_inj ns) hlw43 hRw43 (fun lvw52 memw52 hlw52 hRw52 => ?_)
    show h_T g_P (g_Y ns) 59 63 [(2, .int (Int32.ofInt (-4))), (0, .ref 63), (1, .int x1)] [] s42 _
    exact h_wk [(0, .ref 63)] ⟨rfl, trivial⟩ (kx0 _ _ Is42 Is51 Fs42 Fs51 (by omega) (by omega) (by omega) (by omega) (by omega) (fun _ => d_mk (es42.2.2.2.2.2.2.2.1) (es42.2.2.2.2.2.2.2.2.1) (es42.2.2.2.2.2.2.2.2.2.1) (es42.2.2.2.2.2.2.2.2.2.2.1) (es42.2.2.2.2.2.2.2.2.2.2.2.1) (es42.2.2.2.2.2.2.2.2.2.2.2.2.1) (fun j => (h_upo es42.2.2.2.2.2.2.2.2.2.2.2.2.2 rfl j).trans ((h_upo es39.2.2.2.2.2.2.2.2.2.2.2.2.2 rfl j).trans ((h_upi es37.2.2.2.2.2.2.2.2.2.2.2.2.2 j)))) (fun j => (h_upo es42.2.2.2.2.2.2.2.2.2.2.2.2.2 rfl j).trans ((h_upi es39.2.2.2.2.2.2.2.2.2.2.2.2.2 j).trans (congrArg (fun z => if j = (σ1 66 8) then (-4) else z) ((h_upo es37.2.2.2.2.2.2.2.2.2.2.2.2.2 rfl j))))) (fun j => (h_upo es42.2.2.2.2.2.2.2.2.2.2.2.2.2 rfl j).trans ((h_upo es39.2.2.2.2.2.2.2.2.2.2.2.2.2 rfl j).trans ((h_upo es37.2.2.2.2.2.2.2.2.2.2.2.2.2 rfl j)))) (fun j => (h_upo es42.2.2.2.2.2.2.2.2.2.2.2.2.2 rfl j).trans ((h_upo es39.2.2.2.2.2.2.2.2.2.2.2.2.2 rfl j).trans ((h_upo es37.2.2.2.2.2.2.2.2.2.2.2.2.2 rfl j)))) (fun j => (h_upo es42.2.2.2.2.2.2.2.2.2.2.2.2.2 rfl j).trans ((h_upo es39.2.2.2.2.2.2.2.2.2.2.2.2.2 rfl j).trans ((h_upo es37.2.2.2.2.2.2.2.2.2.2.2.2.2 rfl j)))) (fun j => (h_upo es42.2.2.2.2.2.2.2.2.2.2.2.2.2 rfl j).trans ((h_upo es39.2.2.2.2.2.2.2.2.2.2.2.2.2 rfl j).trans ((h_upo es37.2.2.2.2.2.2.2.2.2.2.2.2.2 rfl j)))) (fun j => (h_upo es42.2.2.2.2.2.2.2.2.2.2.2.2.2 rfl j).trans ((h_upo es39.2.2.2.2.2.2.2.2.2.2.2.2.2 rfl j).trans ((h_upo es37.2.2.2.2.2.2.2.2.2.2.2.2.2 rfl j)))) (fun j => (h_upo es42.2.2.2.2.2.2.2.2.2.2.2.2.2 rfl j).trans ((h_upo es39.2.2.2.2.2.2.2.2.2.2.2.2.2 rfl j).trans ((h_upo es37.2.2.2.2.2.2.2.2.2.2.2.2.2 rfl j)))) (fun j => (h_upo es42.2.2.2.2.2.2.2.2.2.2.2.2.2 rfl j).trans ((h_upo es39.2.2.2.2.2.2.2.2.2.2.2.2.2 rfl j).trans ((h_upo es37.2.2.2.2.2.2.2.2.2.2.2.2.2 rfl j)))) (fun j => (h_upo es42.2.2.2.2.2.2.2.2.2.2.2.2.2 rfl j).trans ((h_upo es39.2.2.2.2.2.2.2.2.2.2.2.2.2 rfl j).trans ((h_upo es37.2.2.2.2.2.2.2.2.2.2.2.2.2 rfl j)))) (es51.2.2.2.2.2.2.1) (es51.2.2.2.2.2.2.2.1) (es51.2.2.2.2.2.2.2.2.1) (es51.2.2.2.2.2.2.2.2.2.1) (es51.2.2.2.2.2.2.2.2.2.2.1) (fun j => (h_upo es51.2.2.2.2.2.2.2.2.2.2.2.2.2.2 rfl j).trans ((h_upi es46.2.2.2.2.2.2.2.2.2.2.2.2.2.2 j))) (r_one0 pr10 (by omega) (by omega) (by omega) (by omega) (by omega) (by omega) (by omega))) (Or.inr (Or.inr (Or.inl ⟨by omega, by omega, by omega, by omega, by omega, by omega⟩))) _ _ (h_al_ok ⟨rfl, trivial⟩ hlw52) hRw52)
  · show h_T g_P (g_Y ns) 59 21 [(0, .ref 63), (1, .int x1)] [] σ1 _
    refine h_aload_n (pc' := 22) rfl rfl rfl ?_
    refine h_call (sp := false) (pc' := 25) (M := [(0, .ref 63)]) rfl rfl rfl rfl rfl rfl rfl rfl ?_
    refine h_aload_n (pc' := 1) rfl rfl rfl ?_
    refine h_getI (pc' := 4) (v := σ1 63 2) rfl rfl rfl rfl rfl rfl (fun z53 hz53 => ?_)
    have tz53 := tf_63_2 hI1
    refine h_zne (tg := 22) (pc' := 7) rfl rfl rfl hz53 (fun c54 => absurd c54 (by omega)) (fun c54 => ?_)
    clear hz53
    refine h_aload_n (pc' := 8) rfl rfl rfl ?_
    refine h_getR (pc' := 11) rfl rfl rfl rfl rfl ?_
    refine h_getI (pc' := 14) (v := σ1 64 3) rfl rfl rfl rfl rfl rfl (fun z55 hz55 => ?_)
    have tz55 := tf_64_3 hI1
    refine h_iconst (pc' := 15) (x := (Int32.ofInt 2)) rfl rfl rfl ?_
    refine h_cne (tg := 22) (pc' := 18) rfl rfl rfl hz55 ci_2 (fun c56 => absurd c56 (by omega)) (fun c56 => ?_)
    clear hz55
    refine h_iconst (pc' := 19) (x := (Int32.ofInt 1)) rfl rfl rfl ?_
    refine h_goto (pc' := 23) rfl rfl ?_
    refine h_zret rfl rfl ci_1 (by omega) (h_Kv ?_)
    refine h_zeq (tg := 44) (pc' := 28) rfl rfl rfl ci_1 (fun c57 => absurd c57 (by omega)) (fun c57 => ?_)
    refine h_aload_n (pc' := 29) rfl rfl rfl ?_
    refine h_aload_n (pc' := 30) rfl rfl rfl ?_
    refine h_getR (pc' := 33) rfl rfl rfl rfl rfl ?_
    refine h_getI (pc' := 36) (v := σ1 66 8) rfl rfl rfl rfl rfl rfl (fun z58 hz58 => ?_)
    have tz58 := tf_66_8 hI1
    refine h_iconst (pc' := 37) (x := (Int32.ofInt 1)) rfl rfl rfl ?_
    refine h_isub (pc' := 38) rfl rfl hz58 ci_1 rfl (by omega) (by omega) (fun z59 hz59 => ?_)
    clear hz58
    refine d_toM (g_inj ns) hl2 hR2 (fun lvw60 memw60 hlw60 hRw60 => ?_)
    show h_T g_P (g_Y ns) 153 0 [(0, .ref 98), (1, .int y1)] [] σ2 _
    refine h_iload_n (pc' := 1) rfl rfl rfl ?_
    refine h_iconst (pc' := 2) (x := (Int32.ofInt 3)) rfl rfl rfl ?_
    refine h_cgt (tg := 61) (pc' := 5) rfl rfl rfl hy1 ci_3 (fun c61 => absurd c61 (by omega)) (fun c61 => ?_)
    refine h_aload_n (pc' := 6) rfl rfl rfl ?_
    refine h_getR (pc' := 9) rfl rfl rfl rfl rfl ?_
    refine h_aload_n (pc' := 10) rfl rfl rfl ?_
    refine h_getI (pc' := 13) (v := σ2 98 5) rfl rfl rfl rfl rfl rfl (fun z62 hz62 => ?_)
    have tz62 := tf_98_5 hI2
    refine h_iload_n (pc' := 14) rfl rfl rfl ?_
    refine h_iast (pc' := 15) rfl rfl rfl rfl hz62 (by omega) (by omega) hy1 (h_fgt (E := fun s => s 98 15 = σ2 98 15 ∧ s 98 16 = σ2 98 16 ∧ s 98 17 = σ2 98 17 ∧ s 98 18 = σ2 98 18 ∧ s 98 13 = σ2 98 13 ∧ s 98 14 = σ2 98 14 ∧ s 98 5 = σ2 98 5 ∧ s 98 6 = σ2 98 6 ∧ s 98 7 = σ2 98 7 ∧ s 98 8 = σ2 98 8 ∧ s 98 9 = σ2 98 9 ∧ s 101 18 = σ2 101 18 ∧ s 101 25 = σ2 101 25 ∧ s 101 43 = σ2 101 43 ∧ s = h_up σ2 101 (σ2 98 5) c1) _ (ip_101_0 hI2 (by omega) (by omega)) (F2.up rfl) ⟨rfl, rfl, rfl, rfl, rfl, rfl, rfl, rfl, rfl, rfl, rfl, h_up_n2 (by omega) rfl, h_up_n2 (by omega) rfl, h_up_n2 (by omega) rfl, rfl⟩ (fun s63 Is63 Fs63 (es63 : s63 98 15 = σ2 98 15 ∧ s63 98 16 = σ2 98 16 ∧ s63 98 17 = σ2 98 17 ∧ s63 98 18 = σ2 98 18 ∧ s63 98 13 = σ2 98 13 ∧ s63 98 14 = σ2 98 14 ∧ s63 98 5 = σ2 98 5 ∧ s63 98 6 = σ2 98 6 ∧ s63 98 7 = σ2 98 7 ∧ s63 98 8 = σ2 98 8 ∧ s63 98 9 = σ2 98 9 ∧ s63 101 18 = σ2 101 18 ∧ s63 101 25 = σ2 101 25 ∧ s63 101 43 = σ2 101 43 ∧ s63 = h_up σ2 101 (σ2 98 5) c1) => ?_))
    clear hz62
    refine h_aload_n (pc' := 16) rfl rfl rfl ?_
    refine h_getI (pc' := 19) (v := σ2 98 17) rfl rfl rfl rfl rfl es63.2.2.1 (fun z64 hz64 => ?_)
    have tz64 := tf_98_17 hI2
    refine h_iconst (pc' := 20) (x := (Int32.ofInt 2)) rfl rfl rfl ?_
    refine h_cne (tg := 48) (pc' := 23) rfl rfl rfl hz64 ci_2 (fun c65 => absurd c65 (by omega)) (fun c65 => ?_)
    clear hz64
    refine h_aload_n (pc' := 24) rfl rfl rfl ?_
    refine h_getR (pc' := 27) rfl rfl rfl rfl rfl ?_
    refine h_bipush (pc' := 29) (x := (Int32.ofInt 6)) rfl rfl cb_6 ?_
    refine h_aload_n (pc' := 30) rfl rfl rfl ?_
    refine h_getI (pc' := 33) (v := σ2 98 5) rfl rfl rfl rfl rfl es63.2.2.2.2.2.2.1 (fun z66 hz66 => ?_)
    refine h_iadd (pc' := 34) rfl rfl ci_6 hz66 rfl (by omega) (by omega) (fun z67 hz67 => ?_)
    clear hz66
    refine h_aload_n (pc' := 35) rfl rfl rfl ?_
    refine h_iconst (pc' := 36) (x := (Int32.ofInt 0)) rfl rfl rfl ?_
    refine h_aload_n (pc' := 37) rfl rfl rfl ?_
    refine h_getI (pc' := 40) (v := σ2 98 5) rfl rfl rfl rfl rfl es63.2.2.2.2.2.2.1 (fun z68 hz68 => ?_)
    refine h_iconst (pc' := 41) (x := (Int32.ofInt 1)) rfl rfl rfl ?_
    refine h_isub (pc' := 42) rfl rfl hz68 ci_1 rfl (by omega) (by omega) (fun z69 hz69 => ?_)
    clear hz68
    refine d_pcall (g_inj ns) (m1 := 58) (pc1' := 41) (M1 := [(0, .ref 63), (1, .int z59)]) (rest1 := []) (m2 := 149) (pc2' := 45) (M2 := [(0, .ref 98), (1, .int (Int32.ofInt 0)), (2, .int z69)]) (rest2 := [.int z67, .ref 101]) ⟨false, _, _, _, _, _, _, rfl, rfl, rfl, rfl, rfl, rfl, rfl⟩ ⟨false, _, _, _, _, _, _, rfl, rfl, rfl, rfl, rfl, rfl, rfl⟩ hRw60 ?_
    refine pp_num hI1 Is63 (hTL.fr (F1.mono rfl) (Fs63.mono rfl)) z59 _ hz59 z69 _ hz69 (by omega) (by omega) (by omega) (by omega) (by omega) (by omega) (Or.inr (Or.inr (Or.inr (Or.inl ⟨by omega, by omega, by omega, by omega, by omega, by omega, by omega, by omega⟩)))) (fun rq70x bq70x hq70x rq70m bq70m hq70m sq70 tq70 Isq70 Itq70 Gsq70 Gtq70 yq70_0 yq70_1 yq70_2 yq70_3 yq70_4 pcq70 memq70 hRq70 => ?_)
    have Fsq70 := (Gsq70.mono (B := k_pl) rfl).tr F1
    have Ftq70 := (Gtq70.mono (B := k_pm) rfl).tr Fs63
    have esq70_6 : sq70 64 1 = σ1 64 1 := (Gsq70 64 1 rfl).trans rfl
    have esq70_7 : sq70 66 8 = σ1 66 8 := (Gsq70 66 8 rfl).trans rfl
    have esq70_8 : sq70 66 9 = σ1 66 9 := (Gsq70 66 9 rfl).trans rfl
    have esq70_9 : sq70 66 10 = σ1 66 10 := (Gsq70 66 10 rfl).trans rfl
    have esq70_10 : sq70 69 2 = σ1 69 2 := (Gsq70 69 2 rfl).trans rfl
    have esq70_11 : sq70 72 2 = σ1 72 2 := (Gsq70 72 2 rfl).trans rfl
    have esq70_12 : sq70 63 5 = σ1 63 5 := (Gsq70 63 5 rfl).trans rfl
    have etq70_6 : tq70 98 5 = σ2 98 5 := (Gtq70 98 5 rfl).trans es63.2.2.2.2.2.2.1
    have etq70_7 : tq70 98 6 = σ2 98 6 := (Gtq70 98 6 rfl).trans es63.2.2.2.2.2.2.2.1
    have etq70_8 : tq70 98 7 = σ2 98 7 := (Gtq70 98 7 rfl).trans es63.2.2.2.2.2.2.2.2.1
    have etq70_9 : tq70 98 8 = σ2 98 8 := (Gtq70 98 8 rfl).trans es63.2.2.2.2.2.2.2.2.2.1
    have etq70_10 : tq70 98 9 = σ2 98 9 := (Gtq70 98 9 rfl).trans es63.2.2.2.2.2.2.2.2.2.2.1
    have etq70_11 : tq70 101 18 = σ2 101 18 := (Gtq70 101 18 rfl).trans es63.2.2.2.2.2.2.2.2.2.2.2.1
    have etq70_12 : tq70 101 25 = σ2 101 25 := (Gtq70 101 25 rfl).trans es63.2.2.2.2.2.2.2.2.2.2.2.2.1
    have etq70_13 : tq70 101 43 = σ2 101 43 := (Gtq70 101 43 rfl).trans es63.2.2.2.2.2.2.2.2.2.2.2.2.2.1
    rcases pcq70 with pcq70 | pcq70
    · show h_T g_P (g_Y ns) 153 45 [(0, .ref 98), (1, .int y1)] [.int rq70m, .int z67, .ref 101] tq70 _
      clear hz59 hz69
      refine h_iconst (pc' := 46) (x := (Int32.ofInt 1)) rfl rfl rfl ?_
      refine h_iadd (pc' := 47) rfl rfl hq70m ci_1 rfl (by have g0 := h_rgv hq70m; omega) (by have g0 := h_rgv hq70m; omega) (fun z71 hz71 => ?_)
      clear hq70m
      refine h_iast (pc' := 48) rfl rfl rfl rfl hz67 (by omega) (by omega) hz71 (h_fgt (E := fun s => s 98 15 = tq70 98 15 ∧ s 98 16 = tq70 98 16 ∧ s 98 17 = tq70 98 17 ∧ s 98 18 = tq70 98 18 ∧ s 98 13 = tq70 98 13 ∧ s 98 14 = tq70 98 14 ∧ s 98 5 = σ2 98 5 ∧ s 98 6 = σ2 98 6 ∧ s 98 7 = σ2 98 7 ∧ s 98 8 = σ2 98 8 ∧ s 98 9 = σ2 98 9 ∧ s 101 18 = σ2 101 18 ∧ s 101 25 = σ2 101 25 ∧ s 101 43 = σ2 101 43 ∧ s = h_up tq70 101 (6 + (σ2 98 5)) (bq70m + 1)) _ (ip_101_1 Itq70 (by omega) (by omega)) (Ftq70.up rfl) ⟨rfl, rfl, rfl, rfl, rfl, rfl, etq70_6, etq70_7, etq70_8, etq70_9, etq70_10, h_up_n2 (by omega) etq70_11, h_up_n2 (by omega) etq70_12, h_up_n2 (by omega) etq70_13, rfl⟩ (fun s72 Is72 Fs72 (es72 : s72 98 15 = tq70 98 15 ∧ s72 98 16 = tq70 98 16 ∧ s72 98 17 = tq70 98 17 ∧ s72 98 18 = tq70 98 18 ∧ s72 98 13 = tq70 98 13 ∧ s72 98 14 = tq70 98 14 ∧ s72 98 5 = σ2 98 5 ∧ s72 98 6 = σ2 98 6 ∧ s72 98 7 = σ2 98 7 ∧ s72 98 8 = σ2 98 8 ∧ s72 98 9 = σ2 98 9 ∧ s72 101 18 = σ2 101 18 ∧ s72 101 25 = σ2 101 25 ∧ s72 101 43 = σ2 101 43 ∧ s72 = h_up tq70 101 (6 + (σ2 98 5)) (bq70m + 1)) => ?_))
      clear hz67 hz71
      refine h_aload_n (pc' := 49) rfl rfl rfl ?_
      refine h_dup (pc' := 50) rfl rfl rfl ?_
      refine h_getI (pc' := 53) (v := σ2 98 5) rfl rfl rfl rfl rfl es72.2.2.2.2.2.2.1 (fun z73 hz73 => ?_)
      refine h_iconst (pc' := 54) (x := (Int32.ofInt 1)) rfl rfl rfl ?_
      refine h_iadd (pc' := 55) rfl rfl hz73 ci_1 rfl (by omega) (by omega) (fun z74 hz74 => ?_)
      clear hz73
      refine h_put (pc' := 58) rfl rfl rfl rfl rfl rfl hz74 rfl (h_fgt (E := fun s => s 98 15 = tq70 98 15 ∧ s 98 16 = tq70 98 16 ∧ s 98 17 = tq70 98 17 ∧ s 98 18 = tq70 98 18 ∧ s 98 13 = tq70 98 13 ∧ s 98 14 = tq70 98 14 ∧ s 98 5 = ((σ2 98 5) + 1) ∧ s 98 6 = σ2 98 6 ∧ s 98 7 = σ2 98 7 ∧ s 98 8 = σ2 98 8 ∧ s 98 9 = σ2 98 9 ∧ s 101 18 = σ2 101 18 ∧ s 101 25 = σ2 101 25 ∧ s 101 43 = σ2 101 43 ∧ s = h_up s72 98 5 ((σ2 98 5) + 1)) _ (if_98_5 Is72 (by omega)) (Fs72.up rfl) ⟨es72.1, es72.2.1, es72.2.2.1, es72.2.2.2.1, es72.2.2.2.2.1, es72.2.2.2.2.2.1, rfl, es72.2.2.2.2.2.2.2.1, es72.2.2.2.2.2.2.2.2.1, es72.2.2.2.2.2.2.2.2.2.1, es72.2.2.2.2.2.2.2.2.2.2.1, es72.2.2.2.2.2.2.2.2.2.2.2.1, es72.2.2.2.2.2.2.2.2.2.2.2.2.1, es72.2.2.2.2.2.2.2.2.2.2.2.2.2.1, rfl⟩ (fun s75 Is75 Fs75 (es75 : s75 98 15 = tq70 98 15 ∧ s75 98 16 = tq70 98 16 ∧ s75 98 17 = tq70 98 17 ∧ s75 98 18 = tq70 98 18 ∧ s75 98 13 = tq70 98 13 ∧ s75 98 14 = tq70 98 14 ∧ s75 98 5 = ((σ2 98 5) + 1) ∧ s75 98 6 = σ2 98 6 ∧ s75 98 7 = σ2 98 7 ∧ s75 98 8 = σ2 98 8 ∧ s75 98 9 = σ2 98 9 ∧ s75 101 18 = σ2 101 18 ∧ s75 101 25 = σ2 101 25 ∧ s75 101 43 = σ2 101 43 ∧ s75 = h_up s72 98 5 ((σ2 98 5) + 1)) => ?_))
      refine h_goto (pc' := 178) rfl rfl ?_
      refine d_toL (g_inj ns) hlw60 hRq70 (fun lvw76 memw76 hlw76 hRw76 => ?_)
      show h_T g_P (g_Y ns) 59 41 [(0, .ref 63), (1, .int x1)] [.int rq70x] sq70 _
      refine h_goto (pc' := 46) rfl rfl ?_
      refine h_istore_n (pc' := 47) (M := [(2, .int rq70x), (0, .ref 63), (1, .int x1)]) rfl rfl rfl rfl ?_
      refine h_aload_n (pc' := 48) rfl rfl rfl ?_
      refine h_getI (pc' := 51) (v := sq70 63 2) rfl rfl rfl rfl rfl rfl (fun z77 hz77 => ?_)
      have tz77 := tf_63_2 Isq70
      refine h_zne (tg := 63) (pc' := 54) rfl rfl rfl hz77 (fun c78 => ?_) (fun c78 => absurd c78 (by omega))
      clear hz77
      exact h_wk [(0, .ref 63)] ⟨rfl, trivial⟩ (kx0 _ _ Isq70 Is75 Fsq70 Fs75 (by omega) (by omega) (by omega) (by omega) (by omega) (fun h => absurd h (by omega)) (Or.inl ⟨by omega, by omega, by omega, by omega⟩) _ _ (h_al_ok ⟨rfl, trivial⟩ hlw76) hRw76)
    · show h_T g_P (g_Y ns) 153 45 [(0, .ref 98), (1, .int y1)] [.int rq70m, .int z67, .ref 101] tq70 _
      clear hz59 hz69
      refine h_iconst (pc' := 46) (x := (Int32.ofInt 1)) rfl rfl rfl ?_
      refine h_iadd (pc' := 47) rfl rfl hq70m ci_1 rfl (by have g0 := h_rgv hq70m; omega) (by have g0 := h_rgv hq70m; omega) (fun z79 hz79 => ?_)
      clear hq70m
      refine h_iast (pc' := 48) rfl rfl rfl rfl hz67 (by omega) (by omega) hz79 (h_fgt (E := fun s => s 98 15 = tq70 98 15 ∧ s 98 16 = tq70 98 16 ∧ s 98 17 = tq70 98 17 ∧ s 98 18 = tq70 98 18 ∧ s 98 13 = tq70 98 13 ∧ s 98 14 = tq70 98 14 ∧ s 98 5 = σ2 98 5 ∧ s 98 6 = σ2 98 6 ∧ s 98 7 = σ2 98 7 ∧ s 98 8 = σ2 98 8 ∧ s 98 9 = σ2 98 9 ∧ s 101 18 = σ2 101 18 ∧ s 101 25 = σ2 101 25 ∧ s 101 43 = σ2 101 43 ∧ s = h_up tq70 101 (6 + (σ2 98 5)) (bq70m + 1)) _ (ip_101_1 Itq70 (by omega) (by omega)) (Ftq70.up rfl) ⟨rfl, rfl, rfl, rfl, rfl, rfl, etq70_6, etq70_7, etq70_8, etq70_9, etq70_10, h_up_n2 (by omega) etq70_11, h_up_n2 (by omega) etq70_12, h_up_n2 (by omega) etq70_13, rfl⟩ (fun s80 Is80 Fs80 (es80 : s80 98 15 = tq70 98 15 ∧ s80 98 16 = tq70 98 16 ∧ s80 98 17 = tq70 98 17 ∧ s80 98 18 = tq70 98 18 ∧ s80 98 13 = tq70 98 13 ∧ s80 98 14 = tq70 98 14 ∧ s80 98 5 = σ2 98 5 ∧ s80 98 6 = σ2 98 6 ∧ s80 98 7 = σ2 98 7 ∧ s80 98 8 = σ2 98 8 ∧ s80 98 9 = σ2 98 9 ∧ s80 101 18 = σ2 101 18 ∧ s80 101 25 = σ2 101 25 ∧ s80 101 43 = σ2 101 43 ∧ s80 = h_up tq70 101 (6 + (σ2 98 5)) (bq70m + 1)) => ?_))
      clear hz67 hz79
      refine h_aload_n (pc' := 49) rfl rfl rfl ?_
      refine h_dup (pc' := 50) rfl rfl rfl ?_
      refine h_getI (pc' := 53) (v := σ2 98 5) rfl rfl rfl rfl rfl es80.2.2.2.2.2.2.1 (fun z81 hz81 => ?_)
      refine h_iconst (pc' := 54) (x := (Int32.ofInt 1)) rfl rfl rfl ?_
      refine h_iadd (pc' := 55) rfl rfl hz81 ci_1 rfl (by omega) (by omega) (fun z82 hz82 => ?_)
      clear hz81
      refine h_put (pc' := 58) rfl rfl rfl rfl rfl rfl hz82 rfl (h_fgt (E := fun s => s 98 15 = tq70 98 15 ∧ s 98 16 = tq70 98 16 ∧ s 98 17 = tq70 98 17 ∧ s 98 18 = tq70 98 18 ∧ s 98 13 = tq70 98 13 ∧ s 98 14 = tq70 98 14 ∧ s 98 5 = ((σ2 98 5) + 1) ∧ s 98 6 = σ2 98 6 ∧ s 98 7 = σ2 98 7 ∧ s 98 8 = σ2 98 8 ∧ s 98 9 = σ2 98 9 ∧ s 101 18 = σ2 101 18 ∧ s 101 25 = σ2 101 25 ∧ s 101 43 = σ2 101 43 ∧ s = h_up s80 98 5 ((σ2 98 5) + 1)) _ (if_98_5 Is80 (by omega)) (Fs80.up rfl) ⟨es80.1, es80.2.1, es80.2.2.1, es80.2.2.2.1, es80.2.2.2.2.1, es80.2.2.2.2.2.1, rfl, es80.2.2.2.2.2.2.2.1, es80.2.2.2.2.2.2.2.2.1, es80.2.2.2.2.2.2.2.2.2.1, es80.2.2.2.2.2.2.2.2.2.2.1, es80.2.2.2.2.2.2.2.2.2.2.2.1, es80.2.2.2.2.2.2.2.2.2.2.2.2.1, es80.2.2.2.2.2.2.2.2.2.2.2.2.2.1, rfl⟩ (fun s83 Is83 Fs83 (es83 : s83 98 15 = tq70 98 15 ∧ s83 98 16 = tq70 98 16 ∧ s83 98 17 = tq70 98 17 ∧ s83 98 18 = tq70 98 18 ∧ s83 98 13 = tq70 98 13 ∧ s83 98 14 = tq70 98 14 ∧ s83 98 5 = ((σ2 98 5) + 1) ∧ s83 98 6 = σ2 98 6 ∧ s83 98 7 = σ2 98 7 ∧ s83 98 8 = σ2 98 8 ∧ s83 98 9 = σ2 98 9 ∧ s83 101 18 = σ2 101 18 ∧ s83 101 25 = σ2 101 25 ∧ s83 101 43 = σ2 101 43 ∧ s83 = h_up s80 98 5 ((σ2 98 5) + 1)) => ?_))
      refine h_goto (pc' := 178) rfl rfl ?_
      refine d_toL (g_inj ns) hlw60 hRq70 (fun lvw84 memw84 hlw84 hRw84 => ?_)
      show h_T g_P (g_Y ns) 59 41 [(0, .ref 63), (1, .int x1)] [.int rq70x] sq70 _
      refine h_goto (pc' := 46) rfl rfl ?_
      refine h_istore_n (pc' := 47) (M := [(2, .int rq70x), (0, .ref 63), (1, .int x1)]) rfl rfl rfl rfl ?_
      refine h_aload_n (pc' := 48) rfl rfl rfl ?_
      refine h_getI (pc' := 51) (v := sq70 63 2) rfl rfl rfl rfl rfl rfl (fun z85 hz85 => ?_)
      have tz85 := tf_63_2 Isq70
      refine h_zne (tg := 63) (pc' := 54) rfl rfl rfl hz85 (fun c86 => absurd c86 (by omega)) (fun c86 => ?_)
      clear hz85
      refine h_aload_n (pc' := 55) rfl rfl rfl ?_
      refine h_getR (pc' := 58) rfl rfl rfl rfl rfl ?_
      refine h_iload_n (pc' := 59) rfl rfl rfl ?_
      refine h_iload_n (pc' := 60) rfl rfl rfl ?_
      refine h_call (sp := false) (pc' := 63) (M := [(0, .ref 66), (1, .int x1), (2, .int rq70x)]) rfl rfl rfl rfl rfl rfl rfl rfl ?_
      refine h_aload_n (pc' := 1) rfl rfl rfl ?_
      refine h_getI (pc' := 4) (v := σ1 66 8) rfl rfl rfl rfl rfl esq70_7 (fun z87 hz87 => ?_)
      refine h_bipush (pc' := 6) (x := (Int32.ofInt 6)) rfl rfl cb_6 ?_
      refine h_cge (tg := 39) (pc' := 9) rfl rfl rfl hz87 ci_6 (fun c88 => absurd c88 (by omega)) (fun c88 => ?_)
      clear hz87
      refine h_aload_n (pc' := 10) rfl rfl rfl ?_
      refine h_getR (pc' := 13) rfl rfl rfl rfl rfl ?_
      refine h_aload_n (pc' := 14) rfl rfl rfl ?_
      refine h_getI (pc' := 17) (v := σ1 66 8) rfl rfl rfl rfl rfl esq70_7 (fun z89 hz89 => ?_)
      refine h_iload_n (pc' := 18) rfl rfl rfl ?_
      refine h_iast (pc' := 19) rfl rfl rfl rfl hz89 (by omega) (by omega) hx1 (h_fgt (E := fun s => s 64 2 = sq70 64 2 ∧ s 64 4 = sq70 64 4 ∧ s 64 3 = sq70 64 3 ∧ s 64 5 = sq70 64 5 ∧ s 63 2 = sq70 63 2 ∧ s 63 3 = sq70 63 3 ∧ s 64 1 = σ1 64 1 ∧ s 66 8 = σ1 66 8 ∧ s 66 9 = σ1 66 9 ∧ s 66 10 = σ1 66 10 ∧ s 69 2 = σ1 69 2 ∧ s 72 2 = σ1 72 2 ∧ s 63 5 = σ1 63 5 ∧ s = h_up sq70 67 (σ1 66 8) a1) _ (in_67 Isq70 (by omega)) (Fsq70.up rfl) ⟨rfl, rfl, rfl, rfl, rfl, rfl, esq70_6, esq70_7, esq70_8, esq70_9, esq70_10, esq70_11, esq70_12, rfl⟩ (fun s90 Is90 Fs90 (es90 : s90 64 2 = sq70 64 2 ∧ s90 64 4 = sq70 64 4 ∧ s90 64 3 = sq70 64 3 ∧ s90 64 5 = sq70 64 5 ∧ s90 63 2 = sq70 63 2 ∧ s90 63 3 = sq70 63 3 ∧ s90 64 1 = σ1 64 1 ∧ s90 66 8 = σ1 66 8 ∧ s90 66 9 = σ1 66 9 ∧ s90 66 10 = σ1 66 10 ∧ s90 69 2 = σ1 69 2 ∧ s90 72 2 = σ1 72 2 ∧ s90 63 5 = σ1 63 5 ∧ s90 = h_up sq70 67 (σ1 66 8) a1) => ?_))
      clear hz89
      refine h_aload_n (pc' := 20) rfl rfl rfl ?_
      refine h_getR (pc' := 23) rfl rfl rfl rfl rfl ?_
      refine h_aload_n (pc' := 24) rfl rfl rfl ?_
      refine h_getI (pc' := 27) (v := σ1 66 8) rfl rfl rfl rfl rfl es90.2.2.2.2.2.2.2.1 (fun z91 hz91 => ?_)
      refine h_iload_n (pc' := 28) rfl rfl rfl ?_
      refine h_iast (pc' := 29) rfl rfl rfl rfl hz91 (by omega) (by omega) hq70x (h_fgt (E := fun s => s 64 2 = sq70 64 2 ∧ s 64 4 = sq70 64 4 ∧ s 64 3 = sq70 64 3 ∧ s 64 5 = sq70 64 5 ∧ s 63 2 = sq70 63 2 ∧ s 63 3 = sq70 63 3 ∧ s 64 1 = σ1 64 1 ∧ s 66 8 = σ1 66 8 ∧ s 66 9 = σ1 66 9 ∧ s 66 10 = σ1 66 10 ∧ s 69 2 = σ1 69 2 ∧ s 72 2 = σ1 72 2 ∧ s 63 5 = σ1 63 5 ∧ s = h_up s90 68 (σ1 66 8) bq70x) _ (in_68 Is90 (by omega)) (Fs90.up rfl) ⟨es90.1, es90.2.1, es90.2.2.1, es90.2.2.2.1, es90.2.2.2.2.1, es90.2.2.2.2.2.1, es90.2.2.2.2.2.2.1, es90.2.2.2.2.2.2.2.1, es90.2.2.2.2.2.2.2.2.1, es90.2.2.2.2.2.2.2.2.2.1, es90.2.2.2.2.2.2.2.2.2.2.1, es90.2.2.2.2.2.2.2.2.2.2.2.1, es90.2.2.2.2.2.2.2.2.2.2.2.2.1, rfl⟩ (fun s92 Is92 Fs92 (es92 : s92 64 2 = sq70 64 2 ∧ s92 64 4 = sq70 64 4 ∧ s92 64 3 = sq70 64 3 ∧ s92 64 5 = sq70 64 5 ∧ s92 63 2 = sq70 63 2 ∧ s92 63 3 = sq70 63 3 ∧ s92 64 1 = σ1 64 1 ∧ s92 66 8 = σ1 66 8 ∧ s92 66 9 = σ1 66 9 ∧ s92 66 10 = σ1 66 10 ∧ s92 69 2 = σ1 69 2 ∧ s92 72 2 = σ1 72 2 ∧ s92 63 5 = σ1 63 5 ∧ s92 = h_up s90 68 (σ1 66 8) bq70x) => ?_))
      clear hz91
      refine h_aload_n (pc' := 30) rfl rfl rfl ?_
      refine h_dup (pc' := 31) rfl rfl rfl ?_
      refine h_getI (pc' := 34) (v := σ1 66 8) rfl rfl rfl rfl rfl es92.2.2.2.2.2.2.2.1 (fun z93 hz93 => ?_)
      refine h_iconst (pc' := 35) (x := (Int32.ofInt 1)) rfl rfl rfl ?_
      refine h_iadd (pc' := 36) rfl rfl hz93 ci_1 rfl (by omega) (by omega) (fun z94 hz94 => ?_)
      clear hz93
      refine h_put (pc' := 39) rfl rfl rfl rfl rfl rfl hz94 rfl (h_fgt (E := fun s => s 64 2 = sq70 64 2 ∧ s 64 4 = sq70 64 4 ∧ s 64 3 = sq70 64 3 ∧ s 64 5 = sq70 64 5 ∧ s 63 2 = sq70 63 2 ∧ s 63 3 = sq70 63 3 ∧ s 64 1 = σ1 64 1 ∧ s 66 8 = ((σ1 66 8) + 1) ∧ s 66 9 = σ1 66 9 ∧ s 66 10 = σ1 66 10 ∧ s 69 2 = σ1 69 2 ∧ s 72 2 = σ1 72 2 ∧ s 63 5 = σ1 63 5 ∧ s = h_up s92 66 8 ((σ1 66 8) + 1)) _ (if_66_8 Is92 (by omega)) (Fs92.up rfl) ⟨es92.1, es92.2.1, es92.2.2.1, es92.2.2.2.1, es92.2.2.2.2.1, es92.2.2.2.2.2.1, es92.2.2.2.2.2.2.1, rfl, es92.2.2.2.2.2.2.2.2.1, es92.2.2.2.2.2.2.2.2.2.1, es92.2.2.2.2.2.2.2.2.2.2.1, es92.2.2.2.2.2.2.2.2.2.2.2.1, es92.2.2.2.2.2.2.2.2.2.2.2.2.1, rfl⟩ (fun s95 Is95 Fs95 (es95 : s95 64 2 = sq70 64 2 ∧ s95 64 4 = sq70 64 4 ∧ s95 64 3 = sq70 64 3 ∧ s95 64 5 = sq70 64 5 ∧ s95 63 2 = sq70 63 2 ∧ s95 63 3 = sq70 63 3 ∧ s95 64 1 = σ1 64 1 ∧ s95 66 8 = ((σ1 66 8) + 1) ∧ s95 66 9 = σ1 66 9 ∧ s95 66 10 = σ1 66 10 ∧ s95 69 2 = σ1 69 2 ∧ s95 72 2 = σ1 72 2 ∧ s95 63 5 = σ1 63 5 ∧ s95 = h_up s92 66 8 ((σ1 66 8) + 1)) => ?_))
      refine h_vret rfl rfl (h_Kn ?_)
      exact h_wk [(0, .ref 63)] ⟨rfl, trivial⟩ (kx0 _ _ Is95 Is83 Fs95 Fs83 (by omega) (by omega) (by omega) (by omega) (by omega) (fun _ => d_mk (es95.2.2.2.2.2.2.2.1) (es95.2.2.2.2.2.2.2.2.1) (es95.2.2.2.2.2.2.2.2.2.1) (es95.2.2.2.2.2.2.2.2.2.2.1) (es95.2.2.2.2.2.2.2.2.2.2.2.1) (es95.2.2.2.2.2.2.2.2.2.2.2.2.1) (fun j => (h_upo es95.2.2.2.2.2.2.2.2.2.2.2.2.2 rfl j).trans ((h_upo es92.2.2.2.2.2.2.2.2.2.2.2.2.2 rfl j).trans ((h_upi es90.2.2.2.2.2.2.2.2.2.2.2.2.2 j).trans (congrArg (fun z => if j = (σ1 66 8) then a1 else z) ((Gsq70 67 j rfl)))))) (fun j => (h_upo es95.2.2.2.2.2.2.2.2.2.2.2.2.2 rfl j).trans ((h_upi es92.2.2.2.2.2.2.2.2.2.2.2.2.2 j).trans (congrArg (fun z => if j = (σ1 66 8) then bq70x else z) ((h_upo es90.2.2.2.2.2.2.2.2.2.2.2.2.2 rfl j).trans ((Gsq70 68 j rfl)))))) (fun j => (h_upo es95.2.2.2.2.2.2.2.2.2.2.2.2.2 rfl j).trans ((h_upo es92.2.2.2.2.2.2.2.2.2.2.2.2.2 rfl j).trans ((h_upo es90.2.2.2.2.2.2.2.2.2.2.2.2.2 rfl j).trans ((Gsq70 70 j rfl))))) (fun j => (h_upo es95.2.2.2.2.2.2.2.2.2.2.2.2.2 rfl j).trans ((h_upo es92.2.2.2.2.2.2.2.2.2.2.2.2.2 rfl j).trans ((h_upo es90.2.2.2.2.2.2.2.2.2.2.2.2.2 rfl j).trans ((Gsq70 71 j rfl))))) (fun j => (h_upo es95.2.2.2.2.2.2.2.2.2.2.2.2.2 rfl j).trans ((h_upo es92.2.2.2.2.2.2.2.2.2.2.2.2.2 rfl j).trans ((h_upo es90.2.2.2.2.2.2.2.2.2.2.2.2.2 rfl j).trans ((Gsq70 73 j rfl))))) (fun j => (h_upo es95.2.2.2.2.2.2.2.2.2.2.2.2.2 rfl j).trans ((h_upo es92.2.2.2.2.2.2.2.2.2.2.2.2.2 rfl j).trans ((h_upo es90.2.2.2.2.2.2.2.2.2.2.2.2.2 rfl j).trans ((Gsq70 74 j rfl))))) (fun j => (h_upo es95.2.2.2.2.2.2.2.2.2.2.2.2.2 rfl j).trans ((h_upo es92.2.2.2.2.2.2.2.2.2.2.2.2.2 rfl j).trans ((h_upo es90.2.2.2.2.2.2.2.2.2.2.2.2.2 rfl j).trans ((Gsq70 75 j rfl))))) (fun j => (h_upo es95.2.2.2.2.2.2.2.2.2.2.2.2.2 rfl j).trans ((h_upo es92.2.2.2.2.2.2.2.2.2.2.2.2.2 rfl j).trans ((h_upo es90.2.2.2.2.2.2.2.2.2.2.2.2.2 rfl j).trans ((Gsq70 76 j rfl))))) (fun j => (h_upo es95.2.2.2.2.2.2.2.2.2.2.2.2.2 rfl j).trans ((h_upo es92.2.2.2.2.2.2.2.2.2.2.2.2.2 rfl j).trans ((h_upo es90.2.2.2.2.2.2.2.2.2.2.2.2.2 rfl j).trans ((Gsq70 77 j rfl))))) (fun j => (h_upo es95.2.2.2.2.2.2.2.2.2.2.2.2.2 rfl j).trans ((h_upo es92.2.2.2.2.2.2.2.2.2.2.2.2.2 rfl j).trans ((h_upo es90.2.2.2.2.2.2.2.2.2.2.2.2.2 rfl j).trans ((Gsq70 78 j rfl))))) (es83.2.2.2.2.2.2.1) (es83.2.2.2.2.2.2.2.1) (es83.2.2.2.2.2.2.2.2.1) (es83.2.2.2.2.2.2.2.2.2.1) (es83.2.2.2.2.2.2.2.2.2.2.1) (fun j => (h_upo es83.2.2.2.2.2.2.2.2.2.2.2.2.2.2 rfl j).trans ((h_upi es80.2.2.2.2.2.2.2.2.2.2.2.2.2.2 j).trans (congrArg (fun z => if j = (6 + (σ2 98 5)) then (bq70m + 1) else z) ((Gtq70 101 j rfl).trans ((h_upi es63.2.2.2.2.2.2.2.2.2.2.2.2.2.2 j)))))) (r_one1 pr10 (by omega) (by omega) (by omega) (by omega) (by omega) (by omega) (by omega) (by omega) (by omega) (by omega))) (pcq70.elim (fun pcq70 => (Or.inr (Or.inl ⟨by omega, by omega, by omega, by omega, by omega, by omega⟩))) (fun pcq70 => (pcq70.elim (fun pcq70 => (Or.inr (Or.inr (Or.inl ⟨by omega, by omega, by omega, by omega, by omega, by omega⟩)))) (fun pcq70 => (pcq70.elim (fun pcq70 => (Or.inr (Or.inr (Or.inr (Or.inl ⟨by omega, by omega, by omega, by omega, by omega, by omega, by omega, by omega, by omega⟩))))) (fun pcq70 => (Or.inr (Or.inr (Or.inr (Or.inr ⟨by omega, by omega, by omega, by omega, by omega, by omega⟩)))))))))) _ _ (h_al_ok ⟨rfl, trivial⟩ hlw84) hRw84)
  · show h_T g_P (g_Y ns) 59 21 [(0, .ref 63), (1, .int x1)] [] σ1 _
    refine h_aload_n (pc' := 22) rfl rfl rfl ?_
    refine h_call (sp := false) (pc' := 25) (M := [(0, .ref 63)]) rfl rfl rfl rfl rfl rfl rfl rfl ?_
    refine h_aload_n (pc' := 1) rfl rfl rfl ?_
    refine h_getI (pc' := 4) (v := σ1 63 2) rfl rfl rfl rfl rfl rfl (fun z96 hz96 => ?_)
    have tz96 := tf_63_2 hI1
    refine h_zne (tg := 22) (pc' := 7) rfl rfl rfl hz96 (fun c97 => absurd c97 (by omega)) (fun c97 => ?_)
    clear hz96
    refine h_aload_n (pc' := 8) rfl rfl rfl ?_
    refine h_getR (pc' := 11) rfl rfl rfl rfl rfl ?_
    refine h_getI (pc' := 14) (v := σ1 64 3) rfl rfl rfl rfl rfl rfl (fun z98 hz98 => ?_)
    have tz98 := tf_64_3 hI1
    refine h_iconst (pc' := 15) (x := (Int32.ofInt 2)) rfl rfl rfl ?_
    refine h_cne (tg := 22) (pc' := 18) rfl rfl rfl hz98 ci_2 (fun c99 => ?_) (fun c99 => absurd c99 (by omega))
    clear hz98
    refine h_iconst (pc' := 23) (x := (Int32.ofInt 0)) rfl rfl rfl ?_
    refine h_zret rfl rfl ci_0 (by omega) (h_Kv ?_)
    refine h_zeq (tg := 44) (pc' := 28) rfl rfl rfl ci_0 (fun c100 => ?_) (fun c100 => absurd c100 (by omega))
    refine h_bipush (pc' := 46) (x := (Int32.ofInt (-4))) rfl rfl cb_m4 ?_
    refine h_istore_n (pc' := 47) (M := [(2, .int (Int32.ofInt (-4))), (0, .ref 63), (1, .int x1)]) rfl rfl rfl rfl ?_
    refine h_aload_n (pc' := 48) rfl rfl rfl ?_
    refine h_getI (pc' := 51) (v := σ1 63 2) rfl rfl rfl rfl rfl rfl (fun z101 hz101 => ?_)
    refine h_zne (tg := 63) (pc' := 54) rfl rfl rfl hz101 (fun c102 => absurd c102 (by omega)) (fun c102 => ?_)
    clear hz101
    refine h_aload_n (pc' := 55) rfl rfl rfl ?_
    refine h_getR (pc' := 58) rfl rfl rfl rfl rfl ?_
    refine h_iload_n (pc' := 59) rfl rfl rfl ?_
    refine h_iload_n (pc' := 60) rfl rfl rfl ?_
    refine h_call (sp := false) (pc' := 63) (M := [(0, .ref 66), (1, .int x1), (2, .int (Int32.ofInt (-4)))]) rfl rfl rfl rfl rfl rfl rfl rfl ?_
    refine h_aload_n (pc' := 1) rfl rfl rfl ?_
    refine h_getI (pc' := 4) (v := σ1 66 8) rfl rfl rfl rfl rfl rfl (fun z103 hz103 => ?_)
    have tz103 := tf_66_8 hI1
    refine h_bipush (pc' := 6) (x := (Int32.ofInt 6)) rfl rfl cb_6 ?_
    refine h_cge (tg := 39) (pc' := 9) rfl rfl rfl hz103 ci_6 (fun c104 => absurd c104 (by omega)) (fun c104 => ?_)
    clear hz103
    refine h_aload_n (pc' := 10) rfl rfl rfl ?_
    refine h_getR (pc' := 13) rfl rfl rfl rfl rfl ?_
    refine h_aload_n (pc' := 14) rfl rfl rfl ?_
    refine h_getI (pc' := 17) (v := σ1 66 8) rfl rfl rfl rfl rfl rfl (fun z105 hz105 => ?_)
    refine h_iload_n (pc' := 18) rfl rfl rfl ?_
    refine h_iast (pc' := 19) rfl rfl rfl rfl hz105 (by omega) (by omega) hx1 (h_fgt (E := fun s => s 64 2 = σ1 64 2 ∧ s 64 4 = σ1 64 4 ∧ s 64 3 = σ1 64 3 ∧ s 64 5 = σ1 64 5 ∧ s 63 2 = σ1 63 2 ∧ s 63 3 = σ1 63 3 ∧ s 64 1 = σ1 64 1 ∧ s 66 8 = σ1 66 8 ∧ s 66 9 = σ1 66 9 ∧ s 66 10 = σ1 66 10 ∧ s 69 2 = σ1 69 2 ∧ s 72 2 = σ1 72 2 ∧ s 63 5 = σ1 63 5 ∧ s = h_up σ1 67 (σ1 66 8) a1) _ (in_67 hI1 (by omega)) (F1.up rfl) ⟨rfl, rfl, rfl, rfl, rfl, rfl, rfl, rfl, rfl, rfl, rfl, rfl, rfl, rfl⟩ (fun s106 Is106 Fs106 (es106 : s106 64 2 = σ1 64 2 ∧ s106 64 4 = σ1 64 4 ∧ s106 64 3 = σ1 64 3 ∧ s106 64 5 = σ1 64 5 ∧ s106 63 2 = σ1 63 2 ∧ s106 63 3 = σ1 63 3 ∧ s106 64 1 = σ1 64 1 ∧ s106 66 8 = σ1 66 8 ∧ s106 66 9 = σ1 66 9 ∧ s106 66 10 = σ1 66 10 ∧ s106 69 2 = σ1 69 2 ∧ s106 72 2 = σ1 72 2 ∧ s106 63 5 = σ1 63 5 ∧ s106 = h_up σ1 67 (σ1 66 8) a1) => ?_))
    clear hz105
    refine h_aload_n (pc' := 20) rfl rfl rfl ?_
    refine h_getR (pc' := 23) rfl rfl rfl rfl rfl ?_
    refine h_aload_n (pc' := 24) rfl rfl rfl ?_
    refine h_getI (pc' := 27) (v := σ1 66 8) rfl rfl rfl rfl rfl es106.2.2.2.2.2.2.2.1 (fun z107 hz107 => ?_)
    refine h_iload_n (pc' := 28) rfl rfl rfl ?_
    refine h_iast (pc' := 29) rfl rfl rfl rfl hz107 (by omega) (by omega) ci_m4 (h_fgt (E := fun s => s 64 2 = σ1 64 2 ∧ s 64 4 = σ1 64 4 ∧ s 64 3 = σ1 64 3 ∧ s 64 5 = σ1 64 5 ∧ s 63 2 = σ1 63 2 ∧ s 63 3 = σ1 63 3 ∧ s 64 1 = σ1 64 1 ∧ s 66 8 = σ1 66 8 ∧ s 66 9 = σ1 66 9 ∧ s 66 10 = σ1 66 10 ∧ s 69 2 = σ1 69 2 ∧ s 72 2 = σ1 72 2 ∧ s 63 5 = σ1 63 5 ∧ s = h_up s106 68 (σ1 66 8) (-4)) _ (in_68 Is106 (by omega)) (Fs106.up rfl) ⟨es106.1, es106.2.1, es106.2.2.1, es106.2.2.2.1, es106.2.2.2.2.1, es106.2.2.2.2.2.1, es106.2.2.2.2.2.2.1, es106.2.2.2.2.2.2.2.1, es106.2.2.2.2.2.2.2.2.1, es106.2.2.2.2.2.2.2.2.2.1, es106.2.2.2.2.2.2.2.2.2.2.1, es106.2.2.2.2.2.2.2.2.2.2.2.1, es106.2.2.2.2.2.2.2.2.2.2.2.2.1, rfl⟩ (fun s108 Is108 Fs108 (es108 : s108 64 2 = σ1 64 2 ∧ s108 64 4 = σ1 64 4 ∧ s108 64 3 = σ1 64 3 ∧ s108 64 5 = σ1 64 5 ∧ s108 63 2 = σ1 63 2 ∧ s108 63 3 = σ1 63 3 ∧ s108 64 1 = σ1 64 1 ∧ s108 66 8 = σ1 66 8 ∧ s108 66 9 = σ1 66 9 ∧ s108 66 10 = σ1 66 10 ∧ s108 69 2 = σ1 69 2 ∧ s108 72 2 = σ1 72 2 ∧ s108 63 5 = σ1 63 5 ∧ s108 = h_up s106 68 (σ1 66 8) (-4)) => ?_))
    clear hz107
    refine h_aload_n (pc' := 30) rfl rfl rfl ?_
    refine h_dup (pc' := 31) rfl rfl rfl ?_
    refine h_getI (pc' := 34) (v := σ1 66 8) rfl rfl rfl rfl rfl es108.2.2.2.2.2.2.2.1 (fun z109 hz109 => ?_)
    refine h_iconst (pc' := 35) (x := (Int32.ofInt 1)) rfl rfl rfl ?_
    refine h_iadd (pc' := 36) rfl rfl hz109 ci_1 rfl (by omega) (by omega) (fun z110 hz110 => ?_)
    clear hz109
    refine h_put (pc' := 39) rfl rfl rfl rfl rfl rfl hz110 rfl (h_fgt (E := fun s => s 64 2 = σ1 64 2 ∧ s 64 4 = σ1 64 4 ∧ s 64 3 = σ1 64 3 ∧ s 64 5 = σ1 64 5 ∧ s 63 2 = σ1 63 2 ∧ s 63 3 = σ1 63 3 ∧ s 64 1 = σ1 64 1 ∧ s 66 8 = ((σ1 66 8) + 1) ∧ s 66 9 = σ1 66 9 ∧ s 66 10 = σ1 66 10 ∧ s 69 2 = σ1 69 2 ∧ s 72 2 = σ1 72 2 ∧ s 63 5 = σ1 63 5 ∧ s = h_up s108 66 8 ((σ1 66 8) + 1)) _ (if_66_8 Is108 (by omega)) (Fs108.up rfl) ⟨es108.1, es108.2.1, es108.2.2.1, es108.2.2.2.1, es108.2.2.2.2.1, es108.2.2.2.2.2.1, es108.2.2.2.2.2.2.1, rfl, es108.2.2.2.2.2.2.2.2.1, es108.2.2.2.2.2.2.2.2.2.1, es108.2.2.2.2.2.2.2.2.2.2.1, es108.2.2.2.2.2.2.2.2.2.2.2.1, es108.2.2.2.2.2.2.2.2.2.2.2.2.1, rfl⟩ (fun s111 Is111 Fs111 (es111 : s111 64 2 = σ1 64 2 ∧ s111 64 4 = σ1 64 4 ∧ s111 64 3 = σ1 64 3 ∧ s111 64 5 = σ1 64 5 ∧ s111 63 2 = σ1 63 2 ∧ s111 63 3 = σ1 63 3 ∧ s111 64 1 = σ1 64 1 ∧ s111 66 8 = ((σ1 66 8) + 1) ∧ s111 66 9 = σ1 66 9 ∧ s111 66 10 = σ1 66 10 ∧ s111 69 2 = σ1 69 2 ∧ s111 72 2 = σ1 72 2 ∧ s111 63 5 = σ1 63 5 ∧ s111 = h_up s108 66 8 ((σ1 66 8) + 1)) => ?_))
    refine h_vret rfl rfl (h_Kn ?_)
    refine d_toM (g_inj ns) hl2 hR2 (fun lvw112 memw112 hlw112 hRw112 => ?_)
    show h_T g_P (g_Y ns) 153 0 [(0, .ref 98), (1, .int y1)] [] σ2 _
    refine h_iload_n (pc' := 1) rfl rfl rfl ?_
    refine h_iconst (pc' := 2) (x := (Int32.ofInt 3)) rfl rfl rfl ?_
    refine h_cgt (tg := 61) (pc' := 5) rfl rfl rfl hy1 ci_3 (fun c113 => absurd c113 (by omega)) (fun c113 => ?_)
    refine h_aload_n (pc' := 6) rfl rfl rfl ?_
    refine h_getR (pc' := 9) rfl rfl rfl rfl rfl ?_
    refine h_aload_n (pc' := 10) rfl rfl rfl ?_
    refine h_getI (pc' := 13) (v := σ2 98 5) rfl rfl rfl rfl rfl rfl (fun z114 hz114 => ?_)
    have tz114 := tf_98_5 hI2
    refine h_iload_n (pc' := 14) rfl rfl rfl ?_
    refine h_iast (pc' := 15) rfl rfl rfl rfl hz114 (by omega) (by omega) hy1 (h_fgt (E := fun s => s 98 15 = σ2 98 15 ∧ s 98 16 = σ2 98 16 ∧ s 98 17 = σ2 98 17 ∧ s 98 18 = σ2 98 18 ∧ s 98 13 = σ2 98 13 ∧ s 98 14 = σ2 98 14 ∧ s 98 5 = σ2 98 5 ∧ s 98 6 = σ2 98 6 ∧ s 98 7 = σ2 98 7 ∧ s 98 8 = σ2 98 8 ∧ s 98 9 = σ2 98 9 ∧ s 101 18 = σ2 101 18 ∧ s 101 25 = σ2 101 25 ∧ s 101 43 = σ2 101 43 ∧ s = h_up σ2 101 (σ2 98 5) c1) _ (ip_101_0 hI2 (by omega) (by omega)) (F2.up rfl) ⟨rfl, rfl, rfl, rfl, rfl, rfl, rfl, rfl, rfl, rfl, rfl, h_up_n2 (by omega) rfl, h_up_n2 (by omega) rfl, h_up_n2 (by omega) rfl, rfl⟩ (fun s115 Is115 Fs115 (es115 : s115 98 15 = σ2 98 15 ∧ s115 98 16 = σ2 98 16 ∧ s115 98 17 = σ2 98 17 ∧ s115 98 18 = σ2 98 18 ∧ s115 98 13 = σ2 98 13 ∧ s115 98 14 = σ2 98 14 ∧ s115 98 5 = σ2 98 5 ∧ s115 98 6 = σ2 98 6 ∧ s115 98 7 = σ2 98 7 ∧ s115 98 8 = σ2 98 8 ∧ s115 98 9 = σ2 98 9 ∧ s115 101 18 = σ2 101 18 ∧ s115 101 25 = σ2 101 25 ∧ s115 101 43 = σ2 101 43 ∧ s115 = h_up σ2 101 (σ2 98 5) c1) => ?_))
    clear hz114
    refine h_aload_n (pc' := 16) rfl rfl rfl ?_
    refine h_getI (pc' := 19) (v := σ2 98 17) rfl rfl rfl rfl rfl es115.2.2.1 (fun z116 hz116 => ?_)
    have tz116 := tf_98_17 hI2
    refine h_iconst (pc' := 20) (x := (Int32.ofInt 2)) rfl rfl rfl ?_
    refine h_cne (tg := 48) (pc' := 23) rfl rfl rfl hz116 ci_2 (fun c117 => ?_) (fun c117 => absurd c117 (by omega))
    clear hz116
    refine h_aload_n (pc' := 49) rfl rfl rfl ?_
    refine h_dup (pc' := 50) rfl rfl rfl ?_
    refine h_getI (pc' := 53) (v := σ2 98 5) rfl rfl rfl rfl rfl es115.2.2.2.2.2.2.1 (fun z118 hz118 => ?_)
    refine h_iconst (pc' := 54) (x := (Int32.ofInt 1)) rfl rfl rfl ?_
    refine h_iadd (pc' := 55) rfl rfl hz118 ci_1 rfl (by omega) (by omega) (fun z119 hz119 => ?_)
    clear hz118
    refine h_put (pc' := 58) rfl rfl rfl rfl rfl rfl hz119 rfl (h_fgt (E := fun s => s 98 15 = σ2 98 15 ∧ s 98 16 = σ2 98 16 ∧ s 98 17 = σ2 98 17 ∧ s 98 18 = σ2 98 18 ∧ s 98 13 = σ2 98 13 ∧ s 98 14 = σ2 98 14 ∧ s 98 5 = ((σ2 98 5) + 1) ∧ s 98 6 = σ2 98 6 ∧ s 98 7 = σ2 98 7 ∧ s 98 8 = σ2 98 8 ∧ s 98 9 = σ2 98 9 ∧ s 101 18 = σ2 101 18 ∧ s 101 25 = σ2 101 25 ∧ s 101 43 = σ2 101 43 ∧ s = h_up s115 98 5 ((σ2 98 5) + 1)) _ (if_98_5 Is115 (by omega)) (Fs115.up rfl) ⟨es115.1, es115.2.1, es115.2.2.1, es115.2.2.2.1, es115.2.2.2.2.1, es115.2.2.2.2.2.1, rfl, es115.2.2.2.2.2.2.2.1, es115.2.2.2.2.2.2.2.2.1, es115.2.2.2.2.2.2.2.2.2.1, es115.2.2.2.2.2.2.2.2.2.2.1, es115.2.2.2.2.2.2.2.2.2.2.2.1, es115.2.2.2.2.2.2.2.2.2.2.2.2.1, es115.2.2.2.2.2.2.2.2.2.2.2.2.2.1, rfl⟩ (fun s120 Is120 Fs120 (es120 : s120 98 15 = σ2 98 15 ∧ s120 98 16 = σ2 98 16 ∧ s120 98 17 = σ2 98 17 ∧ s120 98 18 = σ2 98 18 ∧ s120 98 13 = σ2 98 13 ∧ s120 98 14 = σ2 98 14 ∧ s120 98 5 = ((σ2 98 5) + 1) ∧ s120 98 6 = σ2 98 6 ∧ s120 98 7 = σ2 98 7 ∧ s120 98 8 = σ2 98 8 ∧ s120 98 9 = σ2 98 9 ∧ s120 101 18 = σ2 101 18 ∧ s120 101 25 = σ2 101 25 ∧ s120 101 43 = σ2 101 43 ∧ s120 = h_up s115 98 5 ((σ2 98 5) + 1)) => ?_))
    refine h_goto (pc' := 178) rfl rfl ?_
    refine d_toL (g_inj ns) hlw112 hRw112 (fun lvw121 memw121 hlw121 hRw121 => ?_)
    show h_T g_P (g_Y ns) 59 63 [(2, .int (Int32.ofInt (-4))), (0, .ref 63), (1, .int x1)] [] s111 _
    exact h_wk [(0, .ref 63)] ⟨rfl, trivial⟩ (kx0 _ _ Is111 Is120 Fs111 Fs120 (by omega) (by omega) (by omega) (by omega) (by omega) (fun _ => d_mk (es111.2.2.2.2.2.2.2.1) (es111.2.2.2.2.2.2.2.2.1) (es111.2.2.2.2.2.2.2.2.2.1) (es111.2.2.2.2.2.2.2.2.2.2.1) (es111.2.2.2.2.2.2.2.2.2.2.2.1) (es111.2.2.2.2.2.2.2.2.2.2.2.2.1) (fun j => (h_upo es111.2.2.2.2.2.2.2.2.2.2.2.2.2 rfl j).trans ((h_upo es108.2.2.2.2.2.2.2.2.2.2.2.2.2 rfl j).trans ((h_upi es106.2.2.2.2.2.2.2.2.2.2.2.2.2 j)))) (fun j => (h_upo es111.2.2.2.2.2.2.2.2.2.2.2.2.2 rfl j).trans ((h_upi es108.2.2.2.2.2.2.2.2.2.2.2.2.2 j).trans (congrArg (fun z => if j = (σ1 66 8) then (-4) else z) ((h_upo es106.2.2.2.2.2.2.2.2.2.2.2.2.2 rfl j))))) (fun j => (h_upo es111.2.2.2.2.2.2.2.2.2.2.2.2.2 rfl j).trans ((h_upo es108.2.2.2.2.2.2.2.2.2.2.2.2.2 rfl j).trans ((h_upo es106.2.2.2.2.2.2.2.2.2.2.2.2.2 rfl j)))) (fun j => (h_upo es111.2.2.2.2.2.2.2.2.2.2.2.2.2 rfl j).trans ((h_upo es108.2.2.2.2.2.2.2.2.2.2.2.2.2 rfl j).trans ((h_upo es106.2.2.2.2.2.2.2.2.2.2.2.2.2 rfl j)))) (fun j => (h_upo es111.2.2.2.2.2.2.2.2.2.2.2.2.2 rfl j).trans ((h_upo es108.2.2.2.2.2.2.2.2.2.2.2.2.2 rfl j).trans ((h_upo es106.2.2.2.2.2.2.2.2.2.2.2.2.2 rfl j)))) (fun j => (h_upo es111.2.2.2.2.2.2.2.2.2.2.2.2.2 rfl j).trans ((h_upo es108.2.2.2.2.2.2.2.2.2.2.2.2.2 rfl j).trans ((h_upo es106.2.2.2.2.2.2.2.2.2.2.2.2.2 rfl j)))) (fun j => (h_upo es111.2.2.2.2.2.2.2.2.2.2.2.2.2 rfl j).trans ((h_upo es108.2.2.2.2.2.2.2.2.2.2.2.2.2 rfl j).trans ((h_upo es106.2.2.2.2.2.2.2.2.2.2.2.2.2 rfl j)))) (fun j => (h_upo es111.2.2.2.2.2.2.2.2.2.2.2.2.2 rfl j).trans ((h_upo es108.2.2.2.2.2.2.2.2.2.2.2.2.2 rfl j).trans ((h_upo es106.2.2.2.2.2.2.2.2.2.2.2.2.2 rfl j)))) (fun j => (h_upo es111.2.2.2.2.2.2.2.2.2.2.2.2.2 rfl j).trans ((h_upo es108.2.2.2.2.2.2.2.2.2.2.2.2.2 rfl j).trans ((h_upo es106.2.2.2.2.2.2.2.2.2.2.2.2.2 rfl j)))) (fun j => (h_upo es111.2.2.2.2.2.2.2.2.2.2.2.2.2 rfl j).trans ((h_upo es108.2.2.2.2.2.2.2.2.2.2.2.2.2 rfl j).trans ((h_upo es106.2.2.2.2.2.2.2.2.2.2.2.2.2 rfl j)))) (es120.2.2.2.2.2.2.1) (es120.2.2.2.2.2.2.2.1) (es120.2.2.2.2.2.2.2.2.1) (es120.2.2.2.2.2.2.2.2.2.1) (es120.2.2.2.2.2.2.2.2.2.2.1) (fun j => (h_upo es120.2.2.2.2.2.2.2.2.2.2.2.2.2.2 rfl j).trans ((h_upi es115.2.2.2.2.2.2.2.2.2.2.2.2.2.2 j))) (r_one0 pr10 (by omega) (by omega) (by omega) (by omega) (by omega) (by omega) (by omega))) (Or.inr (Or.inr (Or.inr (Or.inr ⟨by omega, by omega, by omega, by omega, by omega, by omega⟩)))) _ _ (h_al_ok ⟨rfl, trivial⟩ hlw121) hRw121)
set_option maxHeartbeats 100000000 in
theorem ls_one {ns : Nat} {σ1 σ2 : h_S} (hI1 : h_I σ1) (hI2 : h_I σ2) (hTL : d_tape σ1 σ2) (x1 : Int32) (a1 : Int) (hx1 : x1.toInt = a1) (y1 : Int32) (c1 : Int) (hy1 : y1.toInt = c1) (pr0 : σ1 64 2 = σ2 98 15) (pr1 : σ1 64 4 = σ2 98 16) (pr2 : σ1 63 2 = σ2 98 13) (pr3 : σ1 66 8 = σ2 98 5) (pr4 : σ1 66 9 = σ2 98 6) (pr5 : σ1 66 10 = σ2 101 43) (pr6 : σ1 69 2 = σ2 101 18) (pr7 : σ1 72 2 = σ2 101 25) (pr8 : σ1 63 5 = σ2 98 7) (pr9 : σ1 64 2 ≤ σ1 64 1) (pr10 : d_RD σ1 σ2) (pr11 : a1 = c1) (pr12 : 0 ≤ a1 ∧ a1 ≤ 3) (pc0 : ((σ1 63 2 = 0) ∧ (σ2 98 13 = 0))) {cs1 cs2 : List d_Fr} {Q : d_Q} (kx0 : ∀ (s t : h_S), h_I s → h_I t → h_F (k_in k_pl) s σ1 → h_F (k_in k_pm) t σ2 → (s 64 2 = t 98 15) → (s 64 4 = t 98 16) → (s 63 2 = t 98 13) → (s 64 2 ≤ s 64 1) → (σ1 64 2 ≤ s 64 2) → (d_ok s t) → (((1 ≤ s 63 2 ∧ s 63 2 ≤ 6) ∧ (1 ≤ t 98 13 ∧ t 98 13 ≤ 6) ∧ (s 63 2 = t 98 13) ∧ (s 63 3 = t 98 14)) ∨ ((s 63 2 = 0) ∧ (s 64 3 = 3) ∧ (t 98 13 = 0) ∧ (t 98 17 = 3) ∧ (s 64 4 < s 64 2) ∧ (σ1 64 2 < s 64 2))) → ∀ lv2 mem2, h_loc [(0, .ref 98)] lv2 → h_R (g_Y ns) t mem2 → h_T g_P (g_Y ns) 56 180 [(0, .ref 63)] [] s (d_cs g_P (g_Y ns) cs1 (d_L g_P (g_Y ns) (154, 165, lv2, []) cs2 mem2 Q))) (kx1 : ∀ (s t : h_S), h_I s → h_I t → h_F (k_in k_pl) s σ1 → h_F (k_in k_pm) t σ2 → (s 64 2 = t 98 15) → (s 64 4 = t 98 16) → (s 63 2 = t 98 13) → (s 64 2 ≤ s 64 1) → (σ1 64 2 ≤ s 64 2) → (((1 ≤ s 63 2 ∧ s 63 2 ≤ 6) ∧ (1 ≤ t 98 13 ∧ t 98 13 ≤ 6) ∧ (s 63 2 = t 98 13) ∧ (s 63 3 = t 98 14))) → ∀ lv2 mem2, h_loc [(0, .ref 98)] lv2 → h_R (g_Y ns) t mem2 → h_T g_P (g_Y ns) 56 180 [(0, .ref 63)] [] s (d_cs g_P (g_Y ns) cs1 (d_L g_P (g_Y ns) (154, 139, lv2, []) cs2 mem2 Q))) : ∀ lv2 mem2, h_loc [(0, .ref 98), (1, .int y1)] lv2 → h_R (g_Y ns) σ2 mem2 → h_T g_P (g_Y ns) 56 145 [(0, .ref 63), (1, .int x1)] [] σ1 (d_cs g_P (g_Y ns) cs1 (d_L g_P (g_Y ns) (154, 23, lv2, []) cs2 mem2 Q)) := by
  intro lv2 mem2 hl2 hR2
  have hT := hTL.1
  have hL := hTL.2
  have F1 : h_F (k_in k_pl) σ1 σ1 := h_F.rf
  have F2 : h_F (k_in k_pm) σ2 σ2 := h_F.rf
  have ge0 := tf_64_1 hI1
  have ge1 := tf_66_8 hI1
  have ge2 := tf_66_9 hI1
  have ge3 := tf_66_10 hI1
  have ge4 := tf_69_2 hI1
  have ge5 := tf_72_2 hI1
  have ge6 := tf_63_5 hI1
  have ge7 := tf_63_2 hI1
  have ge8 := tf_98_8 hI2
  have ge9 := tf_98_9 hI2
  have ge10 := tf_98_13 hI2
  rcases pc0 with pc0
  · show h_T g_P (g_Y ns) 56 145 [(0, .ref 63), (1, .int x1)] [] σ1 _
    refine h_aload_n (pc' := 146) rfl rfl rfl ?_
    refine h_iload_n (pc' := 147) rfl rfl rfl ?_
    refine d_call (g_inj ns) (pc' := 150) (m := 59) (M := [(0, .ref 63), (1, .int x1)]) (rest := []) ⟨false, _, _, _, _, _, _, rfl, rfl, rfl, rfl, rfl, rfl, rfl⟩ (fun lv1 hlv1 => ?_)
    refine h_aload_n (pc' := 1) rfl rfl rfl ?_
    refine h_aload_n (pc' := 2) rfl rfl rfl ?_
    refine h_getR (pc' := 5) rfl rfl rfl rfl rfl ?_
    refine h_getI (pc' := 8) (v := σ1 66 8) rfl rfl rfl rfl rfl rfl (fun z2 hz2 => ?_)
    have tz2 := tf_66_8 hI1
    refine h_bipush (pc' := 10) (x := (Int32.ofInt 6)) rfl rfl cb_6 ?_
    refine h_clt (tg := 17) (pc' := 13) rfl rfl rfl hz2 ci_6 (fun c3 => ?_) (fun c3 => ?_)
    · clear hz2
      refine h_iconst (pc' := 18) (x := (Int32.ofInt 0)) rfl rfl rfl ?_
      refine d_call (g_inj ns) (pc' := 21) (m := 57) (M := [(0, .ref 63), (1, .int (Int32.ofInt 0))]) (rest := []) ⟨false, _, _, _, _, _, _, rfl, rfl, rfl, rfl, rfl, rfl, rfl⟩ (fun lv4 hlv4 => ?_)
      refine h_iload_n (pc' := 1) rfl rfl rfl ?_
      refine h_zeq (tg := 16) (pc' := 4) rfl rfl rfl ci_0 (fun c5 => ?_) (fun c5 => absurd c5 (by omega))
      refine h_aload_n (pc' := 17) rfl rfl rfl ?_
      refine d_toM (g_inj ns) hl2 hR2 (fun lvw6 memw6 hlw6 hRw6 => ?_)
      show h_T g_P (g_Y ns) 154 23 [(0, .ref 98), (1, .int y1)] [] σ2 _
      refine h_iload_n (pc' := 24) rfl rfl rfl ?_
      refine h_iconst (pc' := 25) (x := (Int32.ofInt 3)) rfl rfl rfl ?_
      refine h_cgt (tg := 37) (pc' := 28) rfl rfl rfl hy1 ci_3 (fun c7 => absurd c7 (by omega)) (fun c7 => ?_)
      refine h_aload_n (pc' := 29) rfl rfl rfl ?_
      refine h_getI (pc' := 32) (v := σ2 98 5) rfl rfl rfl rfl rfl rfl (fun z8 hz8 => ?_)
      have tz8 := tf_98_5 hI2
      refine h_bipush (pc' := 34) (x := (Int32.ofInt 6)) rfl rfl cb_6 ?_
      refine h_ceq (tg := 83) (pc' := 37) rfl rfl rfl hz8 ci_6 (fun c9 => absurd c9 (by omega)) (fun c9 => ?_)
      clear hz8
      refine h_iload_n (pc' := 38) rfl rfl rfl ?_
      refine h_iconst (pc' := 39) (x := (Int32.ofInt 4)) rfl rfl rfl ?_
      refine h_cne (tg := 53) (pc' := 42) rfl rfl rfl hy1 ci_4 (fun c10 => ?_) (fun c10 => absurd c10 (by omega))
      refine h_iload_n (pc' := 54) rfl rfl rfl ?_
      refine h_iconst (pc' := 55) (x := (Int32.ofInt 5)) rfl rfl rfl ?_
      refine h_cne (tg := 69) (pc' := 58) rfl rfl rfl hy1 ci_5 (fun c11 => ?_) (fun c11 => absurd c11 (by omega))
      refine h_iload_n (pc' := 70) rfl rfl rfl ?_
      refine h_bipush (pc' := 72) (x := (Int32.ofInt 6)) rfl rfl cb_6 ?_
      refine h_cne (tg := 88) (pc' := 75) rfl rfl rfl hy1 ci_6 (fun c12 => ?_) (fun c12 => absurd c12 (by omega))
      refine h_iload_n (pc' := 89) rfl rfl rfl ?_
      refine h_bipush (pc' := 91) (x := (Int32.ofInt 7)) rfl rfl cb_7 ?_
      refine h_cne (tg := 106) (pc' := 94) rfl rfl rfl hy1 ci_7 (fun c13 => ?_) (fun c13 => absurd c13 (by omega))
      refine h_aload_n (pc' := 107) rfl rfl rfl ?_
      refine h_aload_n (pc' := 108) rfl rfl rfl ?_
      refine h_getI (pc' := 111) (v := σ2 98 7) rfl rfl rfl rfl rfl rfl (fun z14 hz14 => ?_)
      have tz14 := tf_98_7 hI2
      refine h_zne (tg := 120) (pc' := 114) rfl rfl rfl hz14 (fun c15 => ?_) (fun c15 => ?_)
      · clear hz14
        refine h_iconst (pc' := 121) (x := (Int32.ofInt 1)) rfl rfl rfl ?_
        refine h_goto (pc' := 125) rfl rfl ?_
        refine h_put (pc' := 128) rfl rfl rfl rfl rfl rfl ci_1 (h_fb ci_1 (by omega)) (h_fgt (E := fun s => s 98 15 = σ2 98 15 ∧ s 98 16 = σ2 98 16 ∧ s 98 17 = σ2 98 17 ∧ s 98 18 = σ2 98 18 ∧ s 98 13 = σ2 98 13 ∧ s 98 14 = σ2 98 14 ∧ s 98 5 = σ2 98 5 ∧ s 98 6 = σ2 98 6 ∧ s 98 7 = 1 ∧ s 98 8 = σ2 98 8 ∧ s 98 9 = σ2 98 9 ∧ s 101 18 = σ2 101 18 ∧ s 101 25 = σ2 101 25 ∧ s 101 43 = σ2 101 43 ∧ s = h_up σ2 98 7 1) _ (if_98_7 hI2 (by omega)) (F2.up rfl) ⟨rfl, rfl, rfl, rfl, rfl, rfl, rfl, rfl, rfl, rfl, rfl, rfl, rfl, rfl, rfl⟩ (fun s16 Is16 Fs16 (es16 : s16 98 15 = σ2 98 15 ∧ s16 98 16 = σ2 98 16 ∧ s16 98 17 = σ2 98 17 ∧ s16 98 18 = σ2 98 18 ∧ s16 98 13 = σ2 98 13 ∧ s16 98 14 = σ2 98 14 ∧ s16 98 5 = σ2 98 5 ∧ s16 98 6 = σ2 98 6 ∧ s16 98 7 = 1 ∧ s16 98 8 = σ2 98 8 ∧ s16 98 9 = σ2 98 9 ∧ s16 101 18 = σ2 101 18 ∧ s16 101 25 = σ2 101 25 ∧ s16 101 43 = σ2 101 43 ∧ s16 = h_up σ2 98 7 1) => ?_))
        refine h_aload_n (pc' := 129) rfl rfl rfl ?_
        refine d_pcall (g_inj ns) (m1 := 54) (pc1' := 20) (M1 := [(0, .ref 63)]) (rest1 := []) (m2 := 148) (pc2' := 132) (M2 := [(0, .ref 98)]) (rest2 := []) ⟨false, _, _, _, _, _, _, rfl, rfl, rfl, rfl, rfl, rfl, rfl⟩ ⟨false, _, _, _, _, _, _, rfl, rfl, rfl, rfl, rfl, rfl, rfl⟩ hRw6 ?_
        refine pp_step hI1 Is16 (hTL.fr (F1.mono rfl) (Fs16.mono rfl)) (by omega) (by omega) (by omega) (by omega) (Or.inr ⟨by omega, by omega⟩) (fun sq17 tq17 Isq17 Itq17 Gsq17 Gtq17 yq17_0 yq17_1 yq17_2 yq17_3 yq17_4 pcq17 memq17 hRq17 => ?_)
        have Fsq17 := (Gsq17.mono (B := k_pl) rfl).tr F1
        have Ftq17 := (Gtq17.mono (B := k_pm) rfl).tr Fs16
        have esq17_6 : sq17 64 1 = σ1 64 1 := (Gsq17 64 1 rfl).trans rfl
        have esq17_7 : sq17 66 8 = σ1 66 8 := (Gsq17 66 8 rfl).trans rfl
        have esq17_8 : sq17 66 9 = σ1 66 9 := (Gsq17 66 9 rfl).trans rfl
        have esq17_9 : sq17 66 10 = σ1 66 10 := (Gsq17 66 10 rfl).trans rfl
        have esq17_10 : sq17 69 2 = σ1 69 2 := (Gsq17 69 2 rfl).trans rfl
        have esq17_11 : sq17 72 2 = σ1 72 2 := (Gsq17 72 2 rfl).trans rfl
        have esq17_12 : sq17 63 5 = σ1 63 5 := (Gsq17 63 5 rfl).trans rfl
        have etq17_6 : tq17 98 5 = σ2 98 5 := (Gtq17 98 5 rfl).trans es16.2.2.2.2.2.2.1
        have etq17_7 : tq17 98 6 = σ2 98 6 := (Gtq17 98 6 rfl).trans es16.2.2.2.2.2.2.2.1
        have etq17_8 : tq17 98 7 = 1 := (Gtq17 98 7 rfl).trans es16.2.2.2.2.2.2.2.2.1
        have etq17_9 : tq17 98 8 = σ2 98 8 := (Gtq17 98 8 rfl).trans es16.2.2.2.2.2.2.2.2.2.1
        have etq17_10 : tq17 98 9 = σ2 98 9 := (Gtq17 98 9 rfl).trans es16.2.2.2.2.2.2.2.2.2.2.1
        have etq17_11 : tq17 101 18 = σ2 101 18 := (Gtq17 101 18 rfl).trans es16.2.2.2.2.2.2.2.2.2.2.2.1
        have etq17_12 : tq17 101 25 = σ2 101 25 := (Gtq17 101 25 rfl).trans es16.2.2.2.2.2.2.2.2.2.2.2.2.1
        have etq17_13 : tq17 101 43 = σ2 101 43 := (Gtq17 101 43 rfl).trans es16.2.2.2.2.2.2.2.2.2.2.2.2.2.1
        show h_T g_P (g_Y ns) 154 132 [(0, .ref 98), (1, .int y1)] [] tq17 _
        refine h_aload_n (pc' := 133) rfl rfl rfl ?_
        refine h_getI (pc' := 136) (v := tq17 98 13) rfl rfl rfl rfl rfl rfl (fun z18 hz18 => ?_)
        have tz18 := tf_98_13 Itq17
        refine h_zle (tg := 140) (pc' := 139) rfl rfl rfl hz18 (fun c19 => ?_) (fun c19 => ?_)
        · clear hz18
          refine h_aload_n (pc' := 141) rfl rfl rfl ?_
          refine h_iload_n (pc' := 142) rfl rfl rfl ?_
          refine d_call (g_inj ns) (pc' := 145) (m := 153) (M := [(0, .ref 98), (1, .int y1)]) (rest := []) ⟨false, _, _, _, _, _, _, rfl, rfl, rfl, rfl, rfl, rfl, rfl⟩ (fun lv20 hlv20 => ?_)
          refine d_toL (g_inj ns) hlw6 hRq17 (fun lvw21 memw21 hlw21 hRw21 => ?_)
          show h_T g_P (g_Y ns) 57 20 [(0, .ref 63), (1, .int (Int32.ofInt 0))] [] sq17 _
          refine h_vret rfl rfl (d_retn hlv4 ?_)
          refine h_wk [(0, .ref 63), (1, .int x1)] ⟨rfl, rfl, trivial⟩ (ls_one_b Isq17 Itq17 (hTL.fr (Fsq17.mono rfl) (Ftq17.mono rfl)) x1 _ hx1 y1 _ hy1 (by omega) (by omega) (by omega) (by omega) (by omega) (by omega) (by omega) (by omega) (by omega) (by omega) (d_mk ((Gsq17 66 8 rfl)) ((Gsq17 66 9 rfl)) ((Gsq17 66 10 rfl)) ((Gsq17 69 2 rfl)) ((Gsq17 72 2 rfl)) ((Gsq17 63 5 rfl)) (fun j => (Gsq17 67 j rfl)) (fun j => (Gsq17 68 j rfl)) (fun j => (Gsq17 70 j rfl)) (fun j => (Gsq17 71 j rfl)) (fun j => (Gsq17 73 j rfl)) (fun j => (Gsq17 74 j rfl)) (fun j => (Gsq17 75 j rfl)) (fun j => (Gsq17 76 j rfl)) (fun j => (Gsq17 77 j rfl)) (fun j => (Gsq17 78 j rfl)) ((Gtq17 98 5 rfl).trans (h_upd es16.2.2.2.2.2.2.2.2.2.2.2.2.2.2 (by decide))) ((Gtq17 98 6 rfl).trans (h_upd es16.2.2.2.2.2.2.2.2.2.2.2.2.2.2 (by decide))) (by omega) ((Gtq17 98 8 rfl).trans (h_upd es16.2.2.2.2.2.2.2.2.2.2.2.2.2.2 (by decide))) ((Gtq17 98 9 rfl).trans (h_upd es16.2.2.2.2.2.2.2.2.2.2.2.2.2.2 (by decide))) (fun j => (Gtq17 101 j rfl).trans (h_upo es16.2.2.2.2.2.2.2.2.2.2.2.2.2.2 rfl j)) (pr10)) (by omega) (by omega) (pcq17.elim (fun pcq17 => (by exfalso; omega)) (fun pcq17 => (pcq17.elim (fun pcq17 => (Or.inl ⟨by omega, by omega, by omega, by omega, by omega, by omega, by omega⟩)) (fun pcq17 => (pcq17.elim (fun pcq17 => (Or.inr (Or.inl ⟨by omega, by omega, by omega, by omega, by omega, by omega, by omega⟩))) (fun pcq17 => (pcq17.elim (fun pcq17 => (Or.inr (Or.inr (Or.inl ⟨by omega, by omega, by omega, by omega, by omega, by omega, by omega, by omega, by omega, by omega⟩)))) (fun pcq17 => (Or.inr (Or.inr (Or.inr ⟨by omega, by omega, by omega, by omega, by omega, by omega, by omega⟩))))))))))) (fun sq22 tq22 Isq22 Itq22 Gsq22 Gtq22   yq22_0 yq22_1 yq22_2 yq22_3 yq22_4 yq22_5 pcq22 lvq22 memq22 hlq22 hRq22 => ?_) _ _ (h_al_ok ⟨rfl, rfl, trivial⟩ hlw21) hRw21)
          · have Fsq22 := (Gsq22.mono (B := k_pl) rfl).tr Fsq17
            have Ftq22 := (Gtq22.mono (B := k_pm) rfl).tr Ftq17
            have Isq22 := Isq22
            have Itq22 := Itq22
            have Gsq22 := Gsq22
            have Gtq22 := Gtq22
            have esq22_6 : sq22 64 1 = σ1 64 1 := (Gsq22 64 1 rfl).trans esq17_6
            rcases pcq22 with pcq22 | pcq22
            · show h_T g_P (g_Y ns) 59 63 [(0, .ref 63)] [] sq22 _
              refine h_vret rfl rfl (d_retn hlv1 ?_)
              refine h_aload_n (pc' := 151) rfl rfl rfl ?_
              refine h_getI (pc' := 154) (v := sq22 63 2) rfl rfl rfl rfl rfl rfl (fun z23 hz23 => ?_)
              have tz23 := tf_63_2 Isq22
              refine h_zne (tg := 180) (pc' := 157) rfl rfl rfl hz23 (fun c24 => ?_) (fun c24 => absurd c24 (by omega))
              clear hz23
              refine d_toM (g_inj ns) hlq22 hRq22 (fun lvw25 memw25 hlw25 hRw25 => ?_)
              show h_T g_P (g_Y ns) 153 178 [(0, .ref 98)] [] tq22 _
              refine h_vret rfl rfl (d_retn hlv20 ?_)
              refine h_aload_n (pc' := 146) rfl rfl rfl ?_
              refine h_getI (pc' := 149) (v := tq22 98 13) rfl rfl rfl rfl rfl rfl (fun z26 hz26 => ?_)
              have tz26 := tf_98_13 Itq22
              refine h_zne (tg := 165) (pc' := 152) rfl rfl rfl hz26 (fun c27 => ?_) (fun c27 => absurd c27 (by omega))
              clear hz26
              refine d_toL (g_inj ns) hlw25 hRw25 (fun lvw28 memw28 hlw28 hRw28 => ?_)
              show h_T g_P (g_Y ns) 56 180 [(0, .ref 63), (1, .int x1)] [] sq22 _
              exact h_wk [(0, .ref 63)] ⟨rfl, trivial⟩ (kx0 _ _ Isq22 Itq22 Fsq22 Ftq22 (by omega) (by omega) (by omega) (by omega) (by omega) (fun h => absurd h (by omega)) (Or.inl ⟨by omega, by omega, by omega, by omega⟩) _ _ (h_al_ok ⟨rfl, trivial⟩ hlw28) hRw28)
            · show h_T g_P (g_Y ns) 59 63 [(0, .ref 63)] [] sq22 _
              refine h_vret rfl rfl (d_retn hlv1 ?_)
              refine d_toM (g_inj ns) hlq22 hRq22 (fun lvw29 memw29 hlw29 hRw29 => ?_)
              show h_T g_P (g_Y ns) 153 178 [(0, .ref 98)] [] tq22 _
              refine h_vret rfl rfl (d_retn hlv20 ?_)
              refine d_toL (g_inj ns) hlw29 hRw29 (fun lvw30 memw30 hlw30 hRw30 => ?_)
              show h_T g_P (g_Y ns) 56 150 [(0, .ref 63), (1, .int x1)] [] sq22 _
              refine h_wk [(0, .ref 63)] ⟨rfl, trivial⟩ (ls_sc Isq22 Itq22 (hTL.fr (Fsq22.mono rfl) (Ftq22.mono rfl))   (by omega) (by omega) (by omega) (by omega) (yq22_5) (pcq22.elim (fun pcq22 => (Or.inl ⟨by omega, by omega, by omega, by omega, by omega⟩)) (fun pcq22 => (pcq22.elim (fun pcq22 => (Or.inr (Or.inl ⟨by omega, by omega, by omega, by omega, by omega⟩))) (fun pcq22 => (pcq22.elim (fun pcq22 => (Or.inr (Or.inr (Or.inl ⟨by omega, by omega, by omega, by omega, by omega, by omega, by omega, by omega⟩)))) (fun pcq22 => (Or.inr (Or.inr (Or.inr ⟨by omega, by omega, by omega, by omega, by omega⟩))))))))) (fun sq31 tq31 Isq31 Itq31 Gsq31 Gtq31   yq31_0 yq31_1 yq31_2 yq31_3 yq31_4 yq31_5 pcq31 lvq31 memq31 hlq31 hRq31 => ?_) _ _ (h_al_ok ⟨rfl, trivial⟩ hlw30) hRw30)
              · have Fsq31 := (Gsq31.mono (B := k_pl) rfl).tr Fsq22
                have Ftq31 := (Gtq31.mono (B := k_pm) rfl).tr Ftq22
                have Isq31 := Isq31
                have Itq31 := Itq31
                have Gsq31 := Gsq31
                have Gtq31 := Gtq31
                have esq31_6 : sq31 64 1 = σ1 64 1 := (Gsq31 64 1 rfl).trans esq22_6
                rcases pcq31 with pcq31 | pcq31
                · show h_T g_P (g_Y ns) 56 180 [(0, .ref 63)] [] sq31 _
                  refine d_toM (g_inj ns) hlq31 hRq31 (fun lvw32 memw32 hlw32 hRw32 => ?_)
                  show h_T g_P (g_Y ns) 154 165 [(0, .ref 98)] [] tq31 _
                  refine d_toL (g_inj ns) hlw32 hRw32 (fun lvw33 memw33 hlw33 hRw33 => ?_)
                  show h_T g_P (g_Y ns) 56 180 [(0, .ref 63)] [] sq31 _
                  exact h_wk [(0, .ref 63)] ⟨rfl, trivial⟩ (kx0 _ _ Isq31 Itq31 Fsq31 Ftq31 (by omega) (by omega) (by omega) (by omega) (by omega) (fun h => absurd h (by omega)) (Or.inl ⟨by omega, by omega, by omega, by omega⟩) _ _ (h_al_ok ⟨rfl, trivial⟩ hlw33) hRw33)
                · show h_T g_P (g_Y ns) 56 180 [(0, .ref 63)] [] sq31 _
                  refine d_toM (g_inj ns) hlq31 hRq31 (fun lvw34 memw34 hlw34 hRw34 => ?_)
                  show h_T g_P (g_Y ns) 154 165 [(0, .ref 98)] [] tq31 _
                  refine d_toL (g_inj ns) hlw34 hRw34 (fun lvw35 memw35 hlw35 hRw35 => ?_)
                  show h_T g_P (g_Y ns) 56 180 [(0, .ref 63)] [] sq31 _
                  exact h_wk [(0, .ref 63)] ⟨rfl, trivial⟩ (kx0 _ _ Isq31 Itq31 Fsq31 Ftq31 (by omega) (by omega) (by omega) (by omega) (by omega) (yq31_5) (Or.inr ⟨by omega, by omega, by omega, by omega, by omega, by omega⟩) _ _ (h_al_ok ⟨rfl, trivial⟩ hlw35) hRw35)
        · clear hz18
          refine d_toL (g_inj ns) hlw6 hRq17 (fun lvw36 memw36 hlw36 hRw36 => ?_)
          show h_T g_P (g_Y ns) 57 20 [(0, .ref 63), (1, .int (Int32.ofInt 0))] [] sq17 _
          refine h_vret rfl rfl (d_retn hlv4 ?_)
          refine h_aload_n (pc' := 22) rfl rfl rfl ?_
          refine h_call (sp := false) (pc' := 25) (M := [(0, .ref 63)]) rfl rfl rfl rfl rfl rfl rfl rfl ?_
          refine h_aload_n (pc' := 1) rfl rfl rfl ?_
          refine h_getI (pc' := 4) (v := sq17 63 2) rfl rfl rfl rfl rfl rfl (fun z37 hz37 => ?_)
          have tz37 := tf_63_2 Isq17
          refine h_zne (tg := 22) (pc' := 7) rfl rfl rfl hz37 (fun c38 => ?_) (fun c38 => absurd c38 (by omega))
          clear hz37
          refine h_iconst (pc' := 23) (x := (Int32.ofInt 0)) rfl rfl rfl ?_
          refine h_zret rfl rfl ci_0 (by omega) (h_Kv ?_)
          refine h_zeq (tg := 44) (pc' := 28) rfl rfl rfl ci_0 (fun c39 => ?_) (fun c39 => absurd c39 (by omega))
          refine h_bipush (pc' := 46) (x := (Int32.ofInt (-4))) rfl rfl cb_m4 ?_
          refine h_istore_n (pc' := 47) (M := [(2, .int (Int32.ofInt (-4))), (0, .ref 63), (1, .int x1)]) rfl rfl rfl rfl ?_
          refine h_aload_n (pc' := 48) rfl rfl rfl ?_
          refine h_getI (pc' := 51) (v := sq17 63 2) rfl rfl rfl rfl rfl rfl (fun z40 hz40 => ?_)
          refine h_zne (tg := 63) (pc' := 54) rfl rfl rfl hz40 (fun c41 => ?_) (fun c41 => absurd c41 (by omega))
          clear hz40
          refine h_vret rfl rfl (d_retn hlv1 ?_)
          refine h_aload_n (pc' := 151) rfl rfl rfl ?_
          refine h_getI (pc' := 154) (v := sq17 63 2) rfl rfl rfl rfl rfl rfl (fun z42 hz42 => ?_)
          refine h_zne (tg := 180) (pc' := 157) rfl rfl rfl hz42 (fun c43 => ?_) (fun c43 => absurd c43 (by omega))
          clear hz42
          exact h_wk [(0, .ref 63)] ⟨rfl, trivial⟩ (kx1 _ _ Isq17 Itq17 Fsq17 Ftq17 (by omega) (by omega) (by omega) (by omega) (by omega) (pcq17.elim (fun pcq17 => ⟨by omega, by omega, by omega, by omega⟩) (fun pcq17 => (pcq17.elim (fun pcq17 => (by exfalso; omega)) (fun pcq17 => (pcq17.elim (fun pcq17 => (by exfalso; omega)) (fun pcq17 => (pcq17.elim (fun pcq17 => (by exfalso; omega)) (fun pcq17 => (by exfalso; omega))))))))) _ _ (h_al_ok ⟨rfl, trivial⟩ hlw36) hRw36)
      · clear hz14
        refine h_iload_n (pc' := 115) rfl rfl rfl ?_
        refine h_bipush (pc' := 117) (x := (Int32.ofInt 7)) rfl rfl cb_7 ?_
        refine h_cne (tg := 124) (pc' := 120) rfl rfl rfl hy1 ci_7 (fun c44 => ?_) (fun c44 => absurd c44 (by omega))
        refine h_iconst (pc' := 125) (x := (Int32.ofInt 0)) rfl rfl rfl ?_
        refine h_put (pc' := 128) rfl rfl rfl rfl rfl rfl ci_0 (h_fb ci_0 (by omega)) (h_fgt (E := fun s => s 98 15 = σ2 98 15 ∧ s 98 16 = σ2 98 16 ∧ s 98 17 = σ2 98 17 ∧ s 98 18 = σ2 98 18 ∧ s 98 13 = σ2 98 13 ∧ s 98 14 = σ2 98 14 ∧ s 98 5 = σ2 98 5 ∧ s 98 6 = σ2 98 6 ∧ s 98 7 = 0 ∧ s 98 8 = σ2 98 8 ∧ s 98 9 = σ2 98 9 ∧ s 101 18 = σ2 101 18 ∧ s 101 25 = σ2 101 25 ∧ s 101 43 = σ2 101 43 ∧ s = h_up σ2 98 7 0) _ (if_98_7 hI2 (by omega)) (F2.up rfl) ⟨rfl, rfl, rfl, rfl, rfl, rfl, rfl, rfl, rfl, rfl, rfl, rfl, rfl, rfl, rfl⟩ (fun s45 Is45 Fs45 (es45 : s45 98 15 = σ2 98 15 ∧ s45 98 16 = σ2 98 16 ∧ s45 98 17 = σ2 98 17 ∧ s45 98 18 = σ2 98 18 ∧ s45 98 13 = σ2 98 13 ∧ s45 98 14 = σ2 98 14 ∧ s45 98 5 = σ2 98 5 ∧ s45 98 6 = σ2 98 6 ∧ s45 98 7 = 0 ∧ s45 98 8 = σ2 98 8 ∧ s45 98 9 = σ2 98 9 ∧ s45 101 18 = σ2 101 18 ∧ s45 101 25 = σ2 101 25 ∧ s45 101 43 = σ2 101 43 ∧ s45 = h_up σ2 98 7 0) => ?_))
        refine h_aload_n (pc' := 129) rfl rfl rfl ?_
        refine d_pcall (g_inj ns) (m1 := 54) (pc1' := 20) (M1 := [(0, .ref 63)]) (rest1 := []) (m2 := 148) (pc2' := 132) (M2 := [(0, .ref 98)]) (rest2 := []) ⟨false, _, _, _, _, _, _, rfl, rfl, rfl, rfl, rfl, rfl, rfl⟩ ⟨false, _, _, _, _, _, _, rfl, rfl, rfl, rfl, rfl, rfl, rfl⟩ hRw6 ?_
        refine pp_step hI1 Is45 (hTL.fr (F1.mono rfl) (Fs45.mono rfl)) (by omega) (by omega) (by omega) (by omega) (Or.inr ⟨by omega, by omega⟩) (fun sq46 tq46 Isq46 Itq46 Gsq46 Gtq46 yq46_0 yq46_1 yq46_2 yq46_3 yq46_4 pcq46 memq46 hRq46 => ?_)
        have Fsq46 := (Gsq46.mono (B := k_pl) rfl).tr F1
        have Ftq46 := (Gtq46.mono (B := k_pm) rfl).tr Fs45
        have esq46_6 : sq46 64 1 = σ1 64 1 := (Gsq46 64 1 rfl).trans rfl
        have esq46_7 : sq46 66 8 = σ1 66 8 := (Gsq46 66 8 rfl).trans rfl
        have esq46_8 : sq46 66 9 = σ1 66 9 := (Gsq46 66 9 rfl).trans rfl
        have esq46_9 : sq46 66 10 = σ1 66 10 := (Gsq46 66 10 rfl).trans rfl
        have esq46_10 : sq46 69 2 = σ1 69 2 := (Gsq46 69 2 rfl).trans rfl
        have esq46_11 : sq46 72 2 = σ1 72 2 := (Gsq46 72 2 rfl).trans rfl
        have esq46_12 : sq46 63 5 = σ1 63 5 := (Gsq46 63 5 rfl).trans rfl
        have etq46_6 : tq46 98 5 = σ2 98 5 := (Gtq46 98 5 rfl).trans es45.2.2.2.2.2.2.1
        have etq46_7 : tq46 98 6 = σ2 98 6 := (Gtq46 98 6 rfl).trans es45.2.2.2.2.2.2.2.1
        have etq46_8 : tq46 98 7 = 0 := (Gtq46 98 7 rfl).trans es45.2.2.2.2.2.2.2.2.1
        have etq46_9 : tq46 98 8 = σ2 98 8 := (Gtq46 98 8 rfl).trans es45.2.2.2.2.2.2.2.2.2.1
        have etq46_10 : tq46 98 9 = σ2 98 9 := (Gtq46 98 9 rfl).trans es45.2.2.2.2.2.2.2.2.2.2.1
        have etq46_11 : tq46 101 18 = σ2 101 18 := (Gtq46 101 18 rfl).trans es45.2.2.2.2.2.2.2.2.2.2.2.1
        have etq46_12 : tq46 101 25 = σ2 101 25 := (Gtq46 101 25 rfl).trans es45.2.2.2.2.2.2.2.2.2.2.2.2.1
        have etq46_13 : tq46 101 43 = σ2 101 43 := (Gtq46 101 43 rfl).trans es45.2.2.2.2.2.2.2.2.2.2.2.2.2.1
        show h_T g_P (g_Y ns) 154 132 [(0, .ref 98), (1, .int y1)] [] tq46 _
        refine h_aload_n (pc' := 133) rfl rfl rfl ?_
        refine h_getI (pc' := 136) (v := tq46 98 13) rfl rfl rfl rfl rfl rfl (fun z47 hz47 => ?_)
        have tz47 := tf_98_13 Itq46
        refine h_zle (tg := 140) (pc' := 139) rfl rfl rfl hz47 (fun c48 => ?_) (fun c48 => ?_)
        · clear hz47
          refine h_aload_n (pc' := 141) rfl rfl rfl ?_
          refine h_iload_n (pc' := 142) rfl rfl rfl ?_
          refine d_call (g_inj ns) (pc' := 145) (m := 153) (M := [(0, .ref 98), (1, .int y1)]) (rest := []) ⟨false, _, _, _, _, _, _, rfl, rfl, rfl, rfl, rfl, rfl, rfl⟩ (fun lv49 hlv49 => ?_)
          refine d_toL (g_inj ns) hlw6 hRq46 (fun lvw50 memw50 hlw50 hRw50 => ?_)
          show h_T g_P (g_Y ns) 57 20 [(0, .ref 63), (1, .int (Int32.ofInt 0))] [] sq46 _
          refine h_vret rfl rfl (d_retn hlv4 ?_)
          refine h_wk [(0, .ref 63), (1, .int x1)] ⟨rfl, rfl, trivial⟩ (ls_one_b Isq46 Itq46 (hTL.fr (Fsq46.mono rfl) (Ftq46.mono rfl)) x1 _ hx1 y1 _ hy1 (by omega) (by omega) (by omega) (by omega) (by omega) (by omega) (by omega) (by omega) (by omega) (by omega) (d_mk ((Gsq46 66 8 rfl)) ((Gsq46 66 9 rfl)) ((Gsq46 66 10 rfl)) ((Gsq46 69 2 rfl)) ((Gsq46 72 2 rfl)) ((Gsq46 63 5 rfl)) (fun j => (Gsq46 67 j rfl)) (fun j => (Gsq46 68 j rfl)) (fun j => (Gsq46 70 j rfl)) (fun j => (Gsq46 71 j rfl)) (fun j => (Gsq46 73 j rfl)) (fun j => (Gsq46 74 j rfl)) (fun j => (Gsq46 75 j rfl)) (fun j => (Gsq46 76 j rfl)) (fun j => (Gsq46 77 j rfl)) (fun j => (Gsq46 78 j rfl)) ((Gtq46 98 5 rfl).trans (h_upd es45.2.2.2.2.2.2.2.2.2.2.2.2.2.2 (by decide))) ((Gtq46 98 6 rfl).trans (h_upd es45.2.2.2.2.2.2.2.2.2.2.2.2.2.2 (by decide))) (by omega) ((Gtq46 98 8 rfl).trans (h_upd es45.2.2.2.2.2.2.2.2.2.2.2.2.2.2 (by decide))) ((Gtq46 98 9 rfl).trans (h_upd es45.2.2.2.2.2.2.2.2.2.2.2.2.2.2 (by decide))) (fun j => (Gtq46 101 j rfl).trans (h_upo es45.2.2.2.2.2.2.2.2.2.2.2.2.2.2 rfl j)) (pr10)) (by omega) (by omega) (pcq46.elim (fun pcq46 => (by exfalso; omega)) (fun pcq46 => (pcq46.elim (fun pcq46 => (Or.inl ⟨by omega, by omega, by omega, by omega, by omega, by omega, by omega⟩)) (fun pcq46 => (pcq46.elim (fun pcq46 => (Or.inr (Or.inl ⟨by omega, by omega, by omega, by omega, by omega, by omega, by omega⟩))) (fun pcq46 => (pcq46.elim (fun pcq46 => (Or.inr (Or.inr (Or.inl ⟨by omega, by omega, by omega, by omega, by omega, by omega, by omega, by omega, by omega, by omega⟩)))) (fun pcq46 => (Or.inr (Or.inr (Or.inr ⟨by omega, by omega, by omega, by omega, by omega, by omega, by omega⟩))))))))))) (fun sq51 tq51 Isq51 Itq51 Gsq51 Gtq51   yq51_0 yq51_1 yq51_2 yq51_3 yq51_4 yq51_5 pcq51 lvq51 memq51 hlq51 hRq51 => ?_) _ _ (h_al_ok ⟨rfl, rfl, trivial⟩ hlw50) hRw50)
          · have Fsq51 := (Gsq51.mono (B := k_pl) rfl).tr Fsq46
            have Ftq51 := (Gtq51.mono (B := k_pm) rfl).tr Ftq46
            have Isq51 := Isq51
            have Itq51 := Itq51
            have Gsq51 := Gsq51
            have Gtq51 := Gtq51
            have esq51_6 : sq51 64 1 = σ1 64 1 := (Gsq51 64 1 rfl).trans esq46_6
            rcases pcq51 with pcq51 | pcq51
            · show h_T g_P (g_Y ns) 59 63 [(0, .ref 63)] [] sq51 _
              refine h_vret rfl rfl (d_retn hlv1 ?_)
              refine h_aload_n (pc' := 151) rfl rfl rfl ?_
              refine h_getI (pc' := 154) (v := sq51 63 2) rfl rfl rfl rfl rfl rfl (fun z52 hz52 => ?_)
              have tz52 := tf_63_2 Isq51
              refine h_zne (tg := 180) (pc' := 157) rfl rfl rfl hz52 (fun c53 => ?_) (fun c53 => absurd c53 (by omega))
              clear hz52
              refine d_toM (g_inj ns) hlq51 hRq51 (fun lvw54 memw54 hlw54 hRw54 => ?_)
              show h_T g_P (g_Y ns) 153 178 [(0, .ref 98)] [] tq51 _
              refine h_vret rfl rfl (d_retn hlv49 ?_)
              refine h_aload_n (pc' := 146) rfl rfl rfl ?_
              refine h_getI (pc' := 149) (v := tq51 98 13) rfl rfl rfl rfl rfl rfl (fun z55 hz55 => ?_)
              have tz55 := tf_98_13 Itq51
              refine h_zne (tg := 165) (pc' := 152) rfl rfl rfl hz55 (fun c56 => ?_) (fun c56 => absurd c56 (by omega))
              clear hz55
              refine d_toL (g_inj ns) hlw54 hRw54 (fun lvw57 memw57 hlw57 hRw57 => ?_)
              show h_T g_P (g_Y ns) 56 180 [(0, .ref 63), (1, .int x1)] [] sq51 _
              exact h_wk [(0, .ref 63)] ⟨rfl, trivial⟩ (kx0 _ _ Isq51 Itq51 Fsq51 Ftq51 (by omega) (by omega) (by omega) (by omega) (by omega) (fun h => absurd h (by omega)) (Or.inl ⟨by omega, by omega, by omega, by omega⟩) _ _ (h_al_ok ⟨rfl, trivial⟩ hlw57) hRw57)
            · show h_T g_P (g_Y ns) 59 63 [(0, .ref 63)] [] sq51 _
              refine h_vret rfl rfl (d_retn hlv1 ?_)
              refine d_toM (g_inj ns) hlq51 hRq51 (fun lvw58 memw58 hlw58 hRw58 => ?_)
              show h_T g_P (g_Y ns) 153 178 [(0, .ref 98)] [] tq51 _
              refine h_vret rfl rfl (d_retn hlv49 ?_)
              refine d_toL (g_inj ns) hlw58 hRw58 (fun lvw59 memw59 hlw59 hRw59 => ?_)
              show h_T g_P (g_Y ns) 56 150 [(0, .ref 63), (1, .int x1)] [] sq51 _
              refine h_wk [(0, .ref 63)] ⟨rfl, trivial⟩ (ls_sc Isq51 Itq51 (hTL.fr (Fsq51.mono rfl) (Ftq51.mono rfl))   (by omega) (by omega) (by omega) (by omega) (yq51_5) (pcq51.elim (fun pcq51 => (Or.inl ⟨by omega, by omega, by omega, by omega, by omega⟩)) (fun pcq51 => (pcq51.elim (fun pcq51 => (Or.inr (Or.inl ⟨by omega, by omega, by omega, by omega, by omega⟩))) (fun pcq51 => (pcq51.elim (fun pcq51 => (Or.inr (Or.inr (Or.inl ⟨by omega, by omega, by omega, by omega, by omega, by omega, by omega, by omega⟩)))) (fun pcq51 => (Or.inr (Or.inr (Or.inr ⟨by omega, by omega, by omega, by omega, by omega⟩))))))))) (fun sq60 tq60 Isq60 Itq60 Gsq60 Gtq60   yq60_0 yq60_1 yq60_2 yq60_3 yq60_4 yq60_5 pcq60 lvq60 memq60 hlq60 hRq60 => ?_) _ _ (h_al_ok ⟨rfl, trivial⟩ hlw59) hRw59)
              · have Fsq60 := (Gsq60.mono (B := k_pl) rfl).tr Fsq51
                have Ftq60 := (Gtq60.mono (B := k_pm) rfl).tr Ftq51
                have Isq60 := Isq60
                have Itq60 := Itq60
                have Gsq60 := Gsq60
                have Gtq60 := Gtq60
                have esq60_6 : sq60 64 1 = σ1 64 1 := (Gsq60 64 1 rfl).trans esq51_6
                rcases pcq60 with pcq60 | pcq60
                · show h_T g_P (g_Y ns) 56 180 [(0, .ref 63)] [] sq60 _
                  refine d_toM (g_inj ns) hlq60 hRq60 (fun lvw61 memw61 hlw61 hRw61 => ?_)
                  show h_T g_P (g_Y ns) 154 165 [(0, .ref 98)] [] tq60 _
                  refine d_toL (g_inj ns) hlw61 hRw61 (fun lvw62 memw62 hlw62 hRw62 => ?_)
                  show h_T g_P (g_Y ns) 56 180 [(0, .ref 63)] [] sq60 _
                  exact h_wk [(0, .ref 63)] ⟨rfl, trivial⟩ (kx0 _ _ Isq60 Itq60 Fsq60 Ftq60 (by omega) (by omega) (by omega) (by omega) (by omega) (fun h => absurd h (by omega)) (Or.inl ⟨by omega, by omega, by omega, by omega⟩) _ _ (h_al_ok ⟨rfl, trivial⟩ hlw62) hRw62)
                · show h_T g_P (g_Y ns) 56 180 [(0, .ref 63)] [] sq60 _
                  refine d_toM (g_inj ns) hlq60 hRq60 (fun lvw63 memw63 hlw63 hRw63 => ?_)
                  show h_T g_P (g_Y ns) 154 165 [(0, .ref 98)] [] tq60 _
                  refine d_toL (g_inj ns) hlw63 hRw63 (fun lvw64 memw64 hlw64 hRw64 => ?_)
                  show h_T g_P (g_Y ns) 56 180 [(0, .ref 63)] [] sq60 _
                  exact h_wk [(0, .ref 63)] ⟨rfl, trivial⟩ (kx0 _ _ Isq60 Itq60 Fsq60 Ftq60 (by omega) (by omega) (by omega) (by omega) (by omega) (yq60_5) (Or.inr ⟨by omega, by omega, by omega, by omega, by omega, by omega⟩) _ _ (h_al_ok ⟨rfl, trivial⟩ hlw64) hRw64)
        · clear hz47
          refine d_toL (g_inj ns) hlw6 hRq46 (fun lvw65 memw65 hlw65 hRw65 => ?_)
          show h_T g_P (g_Y ns) 57 20 [(0, .ref 63), (1, .int (Int32.ofInt 0))] [] sq46 _
          refine h_vret rfl rfl (d_retn hlv4 ?_)
          refine h_aload_n (pc' := 22) rfl rfl rfl ?_
          refine h_call (sp := false) (pc' := 25) (M := [(0, .ref 63)]) rfl rfl rfl rfl rfl rfl rfl rfl ?_
          refine h_aload_n (pc' := 1) rfl rfl rfl ?_
          refine h_getI (pc' := 4) (v := sq46 63 2) rfl rfl rfl rfl rfl rfl (fun z66 hz66 => ?_)
          have tz66 := tf_63_2 Isq46
          refine h_zne (tg := 22) (pc' := 7) rfl rfl rfl hz66 (fun c67 => ?_) (fun c67 => absurd c67 (by omega))
          clear hz66
          refine h_iconst (pc' := 23) (x := (Int32.ofInt 0)) rfl rfl rfl ?_
          refine h_zret rfl rfl ci_0 (by omega) (h_Kv ?_)
          refine h_zeq (tg := 44) (pc' := 28) rfl rfl rfl ci_0 (fun c68 => ?_) (fun c68 => absurd c68 (by omega))
          refine h_bipush (pc' := 46) (x := (Int32.ofInt (-4))) rfl rfl cb_m4 ?_
          refine h_istore_n (pc' := 47) (M := [(2, .int (Int32.ofInt (-4))), (0, .ref 63), (1, .int x1)]) rfl rfl rfl rfl ?_
          refine h_aload_n (pc' := 48) rfl rfl rfl ?_
          refine h_getI (pc' := 51) (v := sq46 63 2) rfl rfl rfl rfl rfl rfl (fun z69 hz69 => ?_)
          refine h_zne (tg := 63) (pc' := 54) rfl rfl rfl hz69 (fun c70 => ?_) (fun c70 => absurd c70 (by omega))
          clear hz69
          refine h_vret rfl rfl (d_retn hlv1 ?_)
          refine h_aload_n (pc' := 151) rfl rfl rfl ?_
          refine h_getI (pc' := 154) (v := sq46 63 2) rfl rfl rfl rfl rfl rfl (fun z71 hz71 => ?_)
          refine h_zne (tg := 180) (pc' := 157) rfl rfl rfl hz71 (fun c72 => ?_) (fun c72 => absurd c72 (by omega))
          clear hz71
          exact h_wk [(0, .ref 63)] ⟨rfl, trivial⟩ (kx1 _ _ Isq46 Itq46 Fsq46 Ftq46 (by omega) (by omega) (by omega) (by omega) (by omega) (pcq46.elim (fun pcq46 => ⟨by omega, by omega, by omega, by omega⟩) (fun pcq46 => (pcq46.elim (fun pcq46 => (by exfalso; omega)) (fun pcq46 => (pcq46.elim (fun pcq46 => (by exfalso; omega)) (fun pcq46 => (pcq46.elim (fun pcq46 => (by exfalso; omega)) (fun pcq46 => (by exfalso; omega))))))))) _ _ (h_al_ok ⟨rfl, trivial⟩ hlw65) hRw65)
    · clear hz2
      refine h_iconst (pc' := 14) (x := (Int32.ofInt 1)) rfl rfl rfl ?_
      refine h_goto (pc' := 18) rfl rfl ?_
      refine d_call (g_inj ns) (pc' := 21) (m := 57) (M := [(0, .ref 63), (1, .int (Int32.ofInt 1))]) (rest := []) ⟨false, _, _, _, _, _, _, rfl, rfl, rfl, rfl, rfl, rfl, rfl⟩ (fun lv73 hlv73 => ?_)
      refine h_iload_n (pc' := 1) rfl rfl rfl ?_
      refine h_zeq (tg := 16) (pc' := 4) rfl rfl rfl ci_1 (fun c74 => absurd c74 (by omega)) (fun c74 => ?_)
      refine h_aload_n (pc' := 5) rfl rfl rfl ?_
      refine h_iconst (pc' := 6) (x := (Int32.ofInt 5)) rfl rfl rfl ?_
      refine h_aload_n (pc' := 7) rfl rfl rfl ?_
      refine h_getR (pc' := 10) rfl rfl rfl rfl rfl ?_
      refine h_getI (pc' := 13) (v := σ1 64 4) rfl rfl rfl rfl rfl rfl (fun z75 hz75 => ?_)
      have tz75 := tf_64_4 hI1
      refine h_call (sp := false) (pc' := 16) (M := [(0, .ref 63), (1, .int (Int32.ofInt 5)), (2, .int z75)]) rfl rfl rfl rfl rfl rfl rfl rfl ?_
      refine h_aload_n (pc' := 1) rfl rfl rfl ?_
      refine h_getI (pc' := 4) (v := σ1 63 2) rfl rfl rfl rfl rfl rfl (fun z76 hz76 => ?_)
      have tz76 := tf_63_2 hI1
      refine h_zne (tg := 17) (pc' := 7) rfl rfl rfl hz76 (fun c77 => absurd c77 (by omega)) (fun c77 => ?_)
      clear hz76
      refine h_aload_n (pc' := 8) rfl rfl rfl ?_
      refine h_iload_n (pc' := 9) rfl rfl rfl ?_
      refine h_put (pc' := 12) rfl rfl rfl rfl rfl rfl ci_5 rfl (h_fgt (E := fun s => s 64 2 = σ1 64 2 ∧ s 64 4 = σ1 64 4 ∧ s 64 3 = σ1 64 3 ∧ s 64 5 = σ1 64 5 ∧ s 63 2 = 5 ∧ s 63 3 = σ1 63 3 ∧ s 64 1 = σ1 64 1 ∧ s 66 8 = σ1 66 8 ∧ s 66 9 = σ1 66 9 ∧ s 66 10 = σ1 66 10 ∧ s 69 2 = σ1 69 2 ∧ s 72 2 = σ1 72 2 ∧ s 63 5 = σ1 63 5 ∧ s = h_up σ1 63 2 5) _ (if_63_2 hI1 (by omega)) (F1.up rfl) ⟨rfl, rfl, rfl, rfl, rfl, rfl, rfl, rfl, rfl, rfl, rfl, rfl, rfl, rfl⟩ (fun s78 Is78 Fs78 (es78 : s78 64 2 = σ1 64 2 ∧ s78 64 4 = σ1 64 4 ∧ s78 64 3 = σ1 64 3 ∧ s78 64 5 = σ1 64 5 ∧ s78 63 2 = 5 ∧ s78 63 3 = σ1 63 3 ∧ s78 64 1 = σ1 64 1 ∧ s78 66 8 = σ1 66 8 ∧ s78 66 9 = σ1 66 9 ∧ s78 66 10 = σ1 66 10 ∧ s78 69 2 = σ1 69 2 ∧ s78 72 2 = σ1 72 2 ∧ s78 63 5 = σ1 63 5 ∧ s78 = h_up σ1 63 2 5) => ?_))
      refine h_aload_n (pc' := 13) rfl rfl rfl ?_
      refine h_iload_n (pc' := 14) rfl rfl rfl ?_
      refine h_put (pc' := 17) rfl rfl rfl rfl rfl rfl hz75 rfl (h_fgt (E := fun s => s 64 2 = σ1 64 2 ∧ s 64 4 = σ1 64 4 ∧ s 64 3 = σ1 64 3 ∧ s 64 5 = σ1 64 5 ∧ s 63 2 = 5 ∧ s 63 3 = (σ1 64 4) ∧ s 64 1 = σ1 64 1 ∧ s 66 8 = σ1 66 8 ∧ s 66 9 = σ1 66 9 ∧ s 66 10 = σ1 66 10 ∧ s 69 2 = σ1 69 2 ∧ s 72 2 = σ1 72 2 ∧ s 63 5 = σ1 63 5 ∧ s = h_up s78 63 3 (σ1 64 4)) _ (if_63_3 Is78 (h_rgv hz75)) (Fs78.up rfl) ⟨es78.1, es78.2.1, es78.2.2.1, es78.2.2.2.1, es78.2.2.2.2.1, rfl, es78.2.2.2.2.2.2.1, es78.2.2.2.2.2.2.2.1, es78.2.2.2.2.2.2.2.2.1, es78.2.2.2.2.2.2.2.2.2.1, es78.2.2.2.2.2.2.2.2.2.2.1, es78.2.2.2.2.2.2.2.2.2.2.2.1, es78.2.2.2.2.2.2.2.2.2.2.2.2.1, rfl⟩ (fun s79 Is79 Fs79 (es79 : s79 64 2 = σ1 64 2 ∧ s79 64 4 = σ1 64 4 ∧ s79 64 3 = σ1 64 3 ∧ s79 64 5 = σ1 64 5 ∧ s79 63 2 = 5 ∧ s79 63 3 = (σ1 64 4) ∧ s79 64 1 = σ1 64 1 ∧ s79 66 8 = σ1 66 8 ∧ s79 66 9 = σ1 66 9 ∧ s79 66 10 = σ1 66 10 ∧ s79 69 2 = σ1 69 2 ∧ s79 72 2 = σ1 72 2 ∧ s79 63 5 = σ1 63 5 ∧ s79 = h_up s78 63 3 (σ1 64 4)) => ?_))
      refine h_vret rfl rfl (h_Kn ?_)
      refine h_aload_n (pc' := 17) rfl rfl rfl ?_
      refine h_call (sp := false) (pc' := 20) (M := [(0, .ref 63)]) rfl rfl rfl rfl rfl rfl rfl rfl ?_
      refine h_aload_n (pc' := 1) rfl rfl rfl ?_
      refine h_getI (pc' := 4) (v := 5) rfl rfl rfl rfl rfl es79.2.2.2.2.1 (fun z80 hz80 => ?_)
      refine h_zne (tg := 37) (pc' := 7) rfl rfl rfl hz80 (fun c81 => ?_) (fun c81 => absurd c81 (by omega))
      clear hz80
      refine h_vret rfl rfl (h_Kn ?_)
      refine h_vret rfl rfl (d_retn hlv73 ?_)
      refine h_aload_n (pc' := 22) rfl rfl rfl ?_
      refine h_call (sp := false) (pc' := 25) (M := [(0, .ref 63)]) rfl rfl rfl rfl rfl rfl rfl rfl ?_
      refine h_aload_n (pc' := 1) rfl rfl rfl ?_
      refine h_getI (pc' := 4) (v := 5) rfl rfl rfl rfl rfl es79.2.2.2.2.1 (fun z82 hz82 => ?_)
      refine h_zne (tg := 22) (pc' := 7) rfl rfl rfl hz82 (fun c83 => ?_) (fun c83 => absurd c83 (by omega))
      clear hz82
      refine h_iconst (pc' := 23) (x := (Int32.ofInt 0)) rfl rfl rfl ?_
      refine h_zret rfl rfl ci_0 (by omega) (h_Kv ?_)
      refine h_zeq (tg := 44) (pc' := 28) rfl rfl rfl ci_0 (fun c84 => ?_) (fun c84 => absurd c84 (by omega))
      refine h_bipush (pc' := 46) (x := (Int32.ofInt (-4))) rfl rfl cb_m4 ?_
      refine h_istore_n (pc' := 47) (M := [(2, .int (Int32.ofInt (-4))), (0, .ref 63), (1, .int x1)]) rfl rfl rfl rfl ?_
      refine h_aload_n (pc' := 48) rfl rfl rfl ?_
      refine h_getI (pc' := 51) (v := 5) rfl rfl rfl rfl rfl es79.2.2.2.2.1 (fun z85 hz85 => ?_)
      refine h_zne (tg := 63) (pc' := 54) rfl rfl rfl hz85 (fun c86 => ?_) (fun c86 => absurd c86 (by omega))
      clear hz85
      refine h_vret rfl rfl (d_retn hlv1 ?_)
      refine h_aload_n (pc' := 151) rfl rfl rfl ?_
      refine h_getI (pc' := 154) (v := 5) rfl rfl rfl rfl rfl es79.2.2.2.2.1 (fun z87 hz87 => ?_)
      refine h_zne (tg := 180) (pc' := 157) rfl rfl rfl hz87 (fun c88 => ?_) (fun c88 => absurd c88 (by omega))
      clear hz87
      refine d_toM (g_inj ns) hl2 hR2 (fun lvw89 memw89 hlw89 hRw89 => ?_)
      show h_T g_P (g_Y ns) 154 23 [(0, .ref 98), (1, .int y1)] [] σ2 _
      refine h_iload_n (pc' := 24) rfl rfl rfl ?_
      refine h_iconst (pc' := 25) (x := (Int32.ofInt 3)) rfl rfl rfl ?_
      refine h_cgt (tg := 37) (pc' := 28) rfl rfl rfl hy1 ci_3 (fun c90 => absurd c90 (by omega)) (fun c90 => ?_)
      refine h_aload_n (pc' := 29) rfl rfl rfl ?_
      refine h_getI (pc' := 32) (v := σ2 98 5) rfl rfl rfl rfl rfl rfl (fun z91 hz91 => ?_)
      have tz91 := tf_98_5 hI2
      refine h_bipush (pc' := 34) (x := (Int32.ofInt 6)) rfl rfl cb_6 ?_
      refine h_ceq (tg := 83) (pc' := 37) rfl rfl rfl hz91 ci_6 (fun c92 => ?_) (fun c92 => absurd c92 (by omega))
      clear hz91
      refine h_aload_n (pc' := 84) rfl rfl rfl ?_
      refine h_iconst (pc' := 85) (x := (Int32.ofInt 5)) rfl rfl rfl ?_
      refine h_call (sp := false) (pc' := 88) (M := [(0, .ref 98), (1, .int (Int32.ofInt 5))]) rfl rfl rfl rfl rfl rfl rfl rfl ?_
      refine h_aload_n (pc' := 1) rfl rfl rfl ?_
      refine h_getI (pc' := 4) (v := σ2 98 13) rfl rfl rfl rfl rfl rfl (fun z93 hz93 => ?_)
      have tz93 := tf_98_13 hI2
      refine h_zne (tg := 20) (pc' := 7) rfl rfl rfl hz93 (fun c94 => absurd c94 (by omega)) (fun c94 => ?_)
      clear hz93
      refine h_aload_n (pc' := 8) rfl rfl rfl ?_
      refine h_iload_n (pc' := 9) rfl rfl rfl ?_
      refine h_put (pc' := 12) rfl rfl rfl rfl rfl rfl ci_5 rfl (h_fgt (E := fun s => s 98 15 = σ2 98 15 ∧ s 98 16 = σ2 98 16 ∧ s 98 17 = σ2 98 17 ∧ s 98 18 = σ2 98 18 ∧ s 98 13 = 5 ∧ s 98 14 = σ2 98 14 ∧ s 98 5 = σ2 98 5 ∧ s 98 6 = σ2 98 6 ∧ s 98 7 = σ2 98 7 ∧ s 98 8 = σ2 98 8 ∧ s 98 9 = σ2 98 9 ∧ s 101 18 = σ2 101 18 ∧ s 101 25 = σ2 101 25 ∧ s 101 43 = σ2 101 43 ∧ s = h_up σ2 98 13 5) _ (if_98_13 hI2 (by omega)) (F2.up rfl) ⟨rfl, rfl, rfl, rfl, rfl, rfl, rfl, rfl, rfl, rfl, rfl, rfl, rfl, rfl, rfl⟩ (fun s95 Is95 Fs95 (es95 : s95 98 15 = σ2 98 15 ∧ s95 98 16 = σ2 98 16 ∧ s95 98 17 = σ2 98 17 ∧ s95 98 18 = σ2 98 18 ∧ s95 98 13 = 5 ∧ s95 98 14 = σ2 98 14 ∧ s95 98 5 = σ2 98 5 ∧ s95 98 6 = σ2 98 6 ∧ s95 98 7 = σ2 98 7 ∧ s95 98 8 = σ2 98 8 ∧ s95 98 9 = σ2 98 9 ∧ s95 101 18 = σ2 101 18 ∧ s95 101 25 = σ2 101 25 ∧ s95 101 43 = σ2 101 43 ∧ s95 = h_up σ2 98 13 5) => ?_))
      refine h_aload_n (pc' := 13) rfl rfl rfl ?_
      refine h_aload_n (pc' := 14) rfl rfl rfl ?_
      refine h_getI (pc' := 17) (v := σ2 98 16) rfl rfl rfl rfl rfl es95.2.1 (fun z96 hz96 => ?_)
      have tz96 := tf_98_16 hI2
      refine h_put (pc' := 20) rfl rfl rfl rfl rfl rfl hz96 rfl (h_fgt (E := fun s => s 98 15 = σ2 98 15 ∧ s 98 16 = σ2 98 16 ∧ s 98 17 = σ2 98 17 ∧ s 98 18 = σ2 98 18 ∧ s 98 13 = 5 ∧ s 98 14 = (σ2 98 16) ∧ s 98 5 = σ2 98 5 ∧ s 98 6 = σ2 98 6 ∧ s 98 7 = σ2 98 7 ∧ s 98 8 = σ2 98 8 ∧ s 98 9 = σ2 98 9 ∧ s 101 18 = σ2 101 18 ∧ s 101 25 = σ2 101 25 ∧ s 101 43 = σ2 101 43 ∧ s = h_up s95 98 14 (σ2 98 16)) _ (if_98_14 Is95 (h_rgv hz96)) (Fs95.up rfl) ⟨es95.1, es95.2.1, es95.2.2.1, es95.2.2.2.1, es95.2.2.2.2.1, rfl, es95.2.2.2.2.2.2.1, es95.2.2.2.2.2.2.2.1, es95.2.2.2.2.2.2.2.2.1, es95.2.2.2.2.2.2.2.2.2.1, es95.2.2.2.2.2.2.2.2.2.2.1, es95.2.2.2.2.2.2.2.2.2.2.2.1, es95.2.2.2.2.2.2.2.2.2.2.2.2.1, es95.2.2.2.2.2.2.2.2.2.2.2.2.2.1, rfl⟩ (fun s97 Is97 Fs97 (es97 : s97 98 15 = σ2 98 15 ∧ s97 98 16 = σ2 98 16 ∧ s97 98 17 = σ2 98 17 ∧ s97 98 18 = σ2 98 18 ∧ s97 98 13 = 5 ∧ s97 98 14 = (σ2 98 16) ∧ s97 98 5 = σ2 98 5 ∧ s97 98 6 = σ2 98 6 ∧ s97 98 7 = σ2 98 7 ∧ s97 98 8 = σ2 98 8 ∧ s97 98 9 = σ2 98 9 ∧ s97 101 18 = σ2 101 18 ∧ s97 101 25 = σ2 101 25 ∧ s97 101 43 = σ2 101 43 ∧ s97 = h_up s95 98 14 (σ2 98 16)) => ?_))
      refine h_vret rfl rfl (h_Kn ?_)
      refine h_iload_n (pc' := 89) rfl rfl rfl ?_
      refine h_bipush (pc' := 91) (x := (Int32.ofInt 7)) rfl rfl cb_7 ?_
      refine h_cne (tg := 106) (pc' := 94) rfl rfl rfl hy1 ci_7 (fun c98 => ?_) (fun c98 => absurd c98 (by omega))
      refine h_aload_n (pc' := 107) rfl rfl rfl ?_
      refine h_aload_n (pc' := 108) rfl rfl rfl ?_
      refine h_getI (pc' := 111) (v := σ2 98 7) rfl rfl rfl rfl rfl es97.2.2.2.2.2.2.2.2.1 (fun z99 hz99 => ?_)
      have tz99 := tf_98_7 hI2
      refine h_zne (tg := 120) (pc' := 114) rfl rfl rfl hz99 (fun c100 => ?_) (fun c100 => ?_)
      · clear hz99
        refine h_iconst (pc' := 121) (x := (Int32.ofInt 1)) rfl rfl rfl ?_
        refine h_goto (pc' := 125) rfl rfl ?_
        refine h_put (pc' := 128) rfl rfl rfl rfl rfl rfl ci_1 (h_fb ci_1 (by omega)) (h_fgt (E := fun s => s 98 15 = σ2 98 15 ∧ s 98 16 = σ2 98 16 ∧ s 98 17 = σ2 98 17 ∧ s 98 18 = σ2 98 18 ∧ s 98 13 = 5 ∧ s 98 14 = (σ2 98 16) ∧ s 98 5 = σ2 98 5 ∧ s 98 6 = σ2 98 6 ∧ s 98 7 = 1 ∧ s 98 8 = σ2 98 8 ∧ s 98 9 = σ2 98 9 ∧ s 101 18 = σ2 101 18 ∧ s 101 25 = σ2 101 25 ∧ s 101 43 = σ2 101 43 ∧ s = h_up s97 98 7 1) _ (if_98_7 Is97 (by omega)) (Fs97.up rfl) ⟨es97.1, es97.2.1, es97.2.2.1, es97.2.2.2.1, es97.2.2.2.2.1, es97.2.2.2.2.2.1, es97.2.2.2.2.2.2.1, es97.2.2.2.2.2.2.2.1, rfl, es97.2.2.2.2.2.2.2.2.2.1, es97.2.2.2.2.2.2.2.2.2.2.1, es97.2.2.2.2.2.2.2.2.2.2.2.1, es97.2.2.2.2.2.2.2.2.2.2.2.2.1, es97.2.2.2.2.2.2.2.2.2.2.2.2.2.1, rfl⟩ (fun s101 Is101 Fs101 (es101 : s101 98 15 = σ2 98 15 ∧ s101 98 16 = σ2 98 16 ∧ s101 98 17 = σ2 98 17 ∧ s101 98 18 = σ2 98 18 ∧ s101 98 13 = 5 ∧ s101 98 14 = (σ2 98 16) ∧ s101 98 5 = σ2 98 5 ∧ s101 98 6 = σ2 98 6 ∧ s101 98 7 = 1 ∧ s101 98 8 = σ2 98 8 ∧ s101 98 9 = σ2 98 9 ∧ s101 101 18 = σ2 101 18 ∧ s101 101 25 = σ2 101 25 ∧ s101 101 43 = σ2 101 43 ∧ s101 = h_up s97 98 7 1) => ?_))
        refine h_aload_n (pc' := 129) rfl rfl rfl ?_
        refine h_call (sp := false) (pc' := 132) (M := [(0, .ref 98)]) rfl rfl rfl rfl rfl rfl rfl rfl ?_
        refine h_aload_n (pc' := 1) rfl rfl rfl ?_
        refine h_getI (pc' := 4) (v := 5) rfl rfl rfl rfl rfl es101.2.2.2.2.1 (fun z102 hz102 => ?_)
        refine h_zle (tg := 8) (pc' := 7) rfl rfl rfl hz102 (fun c103 => absurd c103 (by omega)) (fun c103 => ?_)
        clear hz102
        refine h_vret rfl rfl (h_Kn ?_)
        refine h_aload_n (pc' := 133) rfl rfl rfl ?_
        refine h_getI (pc' := 136) (v := 5) rfl rfl rfl rfl rfl es101.2.2.2.2.1 (fun z104 hz104 => ?_)
        refine h_zle (tg := 140) (pc' := 139) rfl rfl rfl hz104 (fun c105 => absurd c105 (by omega)) (fun c105 => ?_)
        clear hz104
        refine d_toL (g_inj ns) hlw89 hRw89 (fun lvw106 memw106 hlw106 hRw106 => ?_)
        show h_T g_P (g_Y ns) 56 180 [(0, .ref 63), (1, .int x1)] [] s79 _
        exact h_wk [(0, .ref 63)] ⟨rfl, trivial⟩ (kx1 _ _ Is79 Is101 Fs79 Fs101 (by omega) (by omega) (by omega) (by omega) (by omega) ⟨by omega, by omega, by omega, by omega⟩ _ _ (h_al_ok ⟨rfl, trivial⟩ hlw106) hRw106)
      · clear hz99
        refine h_iload_n (pc' := 115) rfl rfl rfl ?_
        refine h_bipush (pc' := 117) (x := (Int32.ofInt 7)) rfl rfl cb_7 ?_
        refine h_cne (tg := 124) (pc' := 120) rfl rfl rfl hy1 ci_7 (fun c107 => ?_) (fun c107 => absurd c107 (by omega))
        refine h_iconst (pc' := 125) (x := (Int32.ofInt 0)) rfl rfl rfl ?_
        refine h_put (pc' := 128) rfl rfl rfl rfl rfl rfl ci_0 (h_fb ci_0 (by omega)) (h_fgt (E := fun s => s 98 15 = σ2 98 15 ∧ s 98 16 = σ2 98 16 ∧ s 98 17 = σ2 98 17 ∧ s 98 18 = σ2 98 18 ∧ s 98 13 = 5 ∧ s 98 14 = (σ2 98 16) ∧ s 98 5 = σ2 98 5 ∧ s 98 6 = σ2 98 6 ∧ s 98 7 = 0 ∧ s 98 8 = σ2 98 8 ∧ s 98 9 = σ2 98 9 ∧ s 101 18 = σ2 101 18 ∧ s 101 25 = σ2 101 25 ∧ s 101 43 = σ2 101 43 ∧ s = h_up s97 98 7 0) _ (if_98_7 Is97 (by omega)) (Fs97.up rfl) ⟨es97.1, es97.2.1, es97.2.2.1, es97.2.2.2.1, es97.2.2.2.2.1, es97.2.2.2.2.2.1, es97.2.2.2.2.2.2.1, es97.2.2.2.2.2.2.2.1, rfl, es97.2.2.2.2.2.2.2.2.2.1, es97.2.2.2.2.2.2.2.2.2.2.1, es97.2.2.2.2.2.2.2.2.2.2.2.1, es97.2.2.2.2.2.2.2.2.2.2.2.2.1, es97.2.2.2.2.2.2.2.2.2.2.2.2.2.1, rfl⟩ (fun s108 Is108 Fs108 (es108 : s108 98 15 = σ2 98 15 ∧ s108 98 16 = σ2 98 16 ∧ s108 98 17 = σ2 98 17 ∧ s108 98 18 = σ2 98 18 ∧ s108 98 13 = 5 ∧ s108 98 14 = (σ2 98 16) ∧ s108 98 5 = σ2 98 5 ∧ s108 98 6 = σ2 98 6 ∧ s108 98 7 = 0 ∧ s108 98 8 = σ2 98 8 ∧ s108 98 9 = σ2 98 9 ∧ s108 101 18 = σ2 101 18 ∧ s108 101 25 = σ2 101 25 ∧ s108 101 43 = σ2 101 43 ∧ s108 = h_up s97 98 7 0) => ?_))
        refine h_aload_n (pc' := 129) rfl rfl rfl ?_
        refine h_call (sp := false) (pc' := 132) (M := [(0, .ref 98)]) rfl rfl rfl rfl rfl rfl rfl rfl ?_
        refine h_aload_n (pc' := 1) rfl rfl rfl ?_
        refine h_getI (pc' := 4) (v := 5) rfl rfl rfl rfl rfl es108.2.2.2.2.1 (fun z109 hz109 => ?_)
        refine h_zle (tg := 8) (pc' := 7) rfl rfl rfl hz109 (fun c110 => absurd c110 (by omega)) (fun c110 => ?_)
        clear hz109
        refine h_vret rfl rfl (h_Kn ?_)
        refine h_aload_n (pc' := 133) rfl rfl rfl ?_
        refine h_getI (pc' := 136) (v := 5) rfl rfl rfl rfl rfl es108.2.2.2.2.1 (fun z111 hz111 => ?_)
        refine h_zle (tg := 140) (pc' := 139) rfl rfl rfl hz111 (fun c112 => absurd c112 (by omega)) (fun c112 => ?_)
        clear hz111
        refine d_toL (g_inj ns) hlw89 hRw89 (fun lvw113 memw113 hlw113 hRw113 => ?_)
        show h_T g_P (g_Y ns) 56 180 [(0, .ref 63), (1, .int x1)] [] s79 _
        exact h_wk [(0, .ref 63)] ⟨rfl, trivial⟩ (kx1 _ _ Is79 Is108 Fs79 Fs108 (by omega) (by omega) (by omega) (by omega) (by omega) ⟨by omega, by omega, by omega, by omega⟩ _ _ (h_al_ok ⟨rfl, trivial⟩ hlw113) hRw113)
