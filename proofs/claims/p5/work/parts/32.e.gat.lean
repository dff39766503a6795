set_option maxHeartbeats 100000000 in
theorem ls_gat_c {ns : Nat} {σ1 σ2 : h_S} (hI1 : h_I σ1) (hI2 : h_I σ2) (hTL : d_tape σ1 σ2) (x1 : Int32) (a1 : Int) (hx1 : x1.toInt = a1) (pr0 : σ1 64 2 = σ2 98 15) (pr1 : σ1 64 4 = σ2 98 16) (pr2 : σ1 63 2 = σ2 98 13) (pr3 : σ1 66 8 = σ2 98 5) (pr4 : σ1 66 9 = σ2 98 6) (pr5 : σ1 66 10 = σ2 101 43) (pr6 : σ1 69 2 = σ2 101 18) (pr7 : σ1 72 2 = σ2 101 25) (pr8 : σ1 63 5 = σ2 98 7) (pr9 : σ1 64 2 ≤ σ1 64 1) (pr10 : d_RD σ1 σ2) (pr11 : σ2 101 (26 + σ2 98 6) = a1) (pr12 : 0 ≤ a1 ∧ a1 ≤ 9) (pc0 : ((σ1 63 2 = 0) ∧ (σ1 64 3 = 0) ∧ (0 ≤ σ1 66 9 ∧ σ1 66 9 ≤ 2) ∧ (σ2 98 13 = 0) ∧ (σ2 98 17 = 0) ∧ (0 ≤ σ2 98 6 ∧ σ2 98 6 ≤ 2) ∧ (σ1 64 4 = σ1 64 1)) ∨ ((σ1 63 2 = 0) ∧ (σ1 64 3 = 1) ∧ (0 ≤ σ1 66 9 ∧ σ1 66 9 ≤ 2) ∧ (σ2 98 13 = 0) ∧ (σ2 98 17 = 1) ∧ (0 ≤ σ2 98 6 ∧ σ2 98 6 ≤ 2) ∧ (σ1 64 4 < σ1 64 2)) ∨ ((σ1 63 2 = 0) ∧ (σ1 64 3 = 2) ∧ (0 ≤ σ1 66 9 ∧ σ1 66 9 ≤ 2) ∧ (σ2 98 13 = 0) ∧ (σ2 98 17 = 2) ∧ (0 ≤ σ2 98 6 ∧ σ2 98 6 ≤ 2) ∧ (0 ≤ σ1 64 5 ∧ σ1 64 5 ≤ 99) ∧ (0 ≤ σ2 98 18 ∧ σ2 98 18 ≤ 99) ∧ (σ1 64 5 = σ2 98 18) ∧ (σ1 64 4 < σ1 64 2)) ∨ ((σ1 63 2 = 0) ∧ (σ1 64 3 = 3) ∧ (0 ≤ σ1 66 9 ∧ σ1 66 9 ≤ 2) ∧ (σ2 98 13 = 0) ∧ (σ2 98 17 = 3) ∧ (0 ≤ σ2 98 6 ∧ σ2 98 6 ≤ 2) ∧ (σ1 64 4 < σ1 64 2))) {cs1 cs2 : List d_Fr} {Q : d_Q} (kx0 : ∀ (s t : h_S), h_I s → h_I t → h_F (k_in k_pl) s σ1 → h_F (k_in k_pm) t σ2 → (s 64 2 = t 98 15) → (s 64 4 = t 98 16) → (s 63 2 = t 98 13) → (s 64 2 ≤ s 64 1) → (σ1 64 2 ≤ s 64 2) → (d_ok s t) → (((1 ≤ s 63 2 ∧ s 63 2 ≤ 6) ∧ (1 ≤ t 98 13 ∧ t 98 13 ≤ 6) ∧ (s 63 2 = t 98 13) ∧ (s 63 3 = t 98 14)) ∨ ((s 63 2 = 0) ∧ (s 64 3 = 0) ∧ (t 98 13 = 0) ∧ (t 98 17 = 0) ∧ (s 64 4 = s 64 1) ∧ ((s 64 2 = σ1 64 2 ∧ s 64 3 = σ1 64 3) ∨ σ1 64 2 < s 64 2)) ∨ ((s 63 2 = 0) ∧ (s 64 3 = 1) ∧ (t 98 13 = 0) ∧ (t 98 17 = 1) ∧ (s 64 4 < s 64 2) ∧ ((s 64 2 = σ1 64 2 ∧ s 64 3 = σ1 64 3) ∨ σ1 64 2 < s 64 2)) ∨ ((s 63 2 = 0) ∧ (s 64 3 = 2) ∧ (t 98 13 = 0) ∧ (t 98 17 = 2) ∧ (0 ≤ s 64 5 ∧ s 64 5 ≤ 99) ∧ (0 ≤ t 98 18 ∧ t 98 18 ≤ 99) ∧ (s 64 5 = t 98 18) ∧ (s 64 4 < s 64 2) ∧ ((s 64 2 = σ1 64 2 ∧ s 64 3 = σ1 64 3) ∨ σ1 64 2 < s 64 2)) ∨ ((s 63 2 = 0) ∧ (s 64 3 = 3) ∧ (t 98 13 = 0) ∧ (t 98 17 = 3) ∧ (s 64 4 < s 64 2) ∧ ((s 64 2 = σ1 64 2 ∧ s 64 3 = σ1 64 3) ∨ σ1 64 2 < s 64 2))) → ∀ lv2 mem2, h_loc [(0, .ref 98)] lv2 → h_R (g_Y ns) t mem2 → h_T g_P (g_Y ns) 61 61 [(0, .ref 63)] [] s (d_cs g_P (g_Y ns) cs1 (d_L g_P (g_Y ns) (153, 178, lv2, []) cs2 mem2 Q))) : ∀ lv2 mem2, h_loc [(0, .ref 98)] lv2 → h_R (g_Y ns) σ2 mem2 → h_T g_P (g_Y ns) 61 27 [(0, .ref 63), (1, .int x1)] [] σ1 (d_cs g_P (g_Y ns) cs1 (d_L g_P (g_Y ns) (153, 128, lv2, []) cs2 mem2 Q)) := by
  intro lv2 mem2 hl2 hR2
  have hT := hTL.1
  have hL := hTL.2
  have F1 : h_F (k_in k_pl) σ1 σ1 := h_F.rf
  have F2 : h_F (k_in k_pm) σ2 σ2 := h_F.rf
  have ge0 := tf_64_1 hI1
  have ge1 := tf_66_8 hI1
  have ge2 := tf_66_9 hI1
  have ge3 := tf_66_10 hI1
  have ge4 := tf_69_2 hI1
  have ge5 := tf_72_2 hI1
  have ge6 := tf_63_5 hI1
  have ge7 := tf_63_2 hI1
  have ge8 := tf_98_8 hI2
  have ge9 := tf_98_9 hI2
  have ge10 := tf_98_13 hI2
  rcases pc0 with pc0 | pc0 | pc0 | pc0
  · show h_T g_P (g_Y ns) 61 27 [(0, .ref 63), (1, .int x1)] [] σ1 _
    refine h_aload_n (pc' := 28) rfl rfl rfl ?_
    refine h_call (sp := false) (pc' := 31) (M := [(0, .ref 63)]) rfl rfl rfl rfl rfl rfl rfl rfl ?_
    refine h_aload_n (pc' := 1) rfl rfl rfl ?_
    refine h_getI (pc' := 4) (v := σ1 63 2) rfl rfl rfl rfl rfl rfl (fun z1 hz1 => ?_)
    have tz1 := tf_63_2 hI1
    refine h_zne (tg := 22) (pc' := 7) rfl rfl rfl hz1 (fun c2 => absurd c2 (by omega)) (fun c2 => ?_)
    clear hz1
    refine h_aload_n (pc' := 8) rfl rfl rfl ?_
    refine h_getR (pc' := 11) rfl rfl rfl rfl rfl ?_
    refine h_getI (pc' := 14) (v := σ1 64 3) rfl rfl rfl rfl rfl rfl (fun z3 hz3 => ?_)
    have tz3 := tf_64_3 hI1
    refine h_iconst (pc' := 15) (x := (Int32.ofInt 2)) rfl rfl rfl ?_
    refine h_cne (tg := 22) (pc' := 18) rfl rfl rfl hz3 ci_2 (fun c4 => ?_) (fun c4 => absurd c4 (by omega))
    clear hz3
    refine h_iconst (pc' := 23) (x := (Int32.ofInt 0)) rfl rfl rfl ?_
    refine h_zret rfl rfl ci_0 (by omega) (h_Kv ?_)
    refine h_zeq (tg := 42) (pc' := 34) rfl rfl rfl ci_0 (fun c5 => ?_) (fun c5 => absurd c5 (by omega))
    refine h_bipush (pc' := 44) (x := (Int32.ofInt (-4))) rfl rfl cb_m4 ?_
    refine h_istore_n (pc' := 45) (M := [(2, .int (Int32.ofInt (-4))), (0, .ref 63), (1, .int x1)]) rfl rfl rfl rfl ?_
    refine h_aload_n (pc' := 46) rfl rfl rfl ?_
    refine h_getI (pc' := 49) (v := σ1 63 2) rfl rfl rfl rfl rfl rfl (fun z6 hz6 => ?_)
    refine h_zne (tg := 61) (pc' := 52) rfl rfl rfl hz6 (fun c7 => absurd c7 (by omega)) (fun c7 => ?_)
    clear hz6
    refine h_aload_n (pc' := 53) rfl rfl rfl ?_
    refine h_getR (pc' := 56) rfl rfl rfl rfl rfl ?_
    refine h_iload_n (pc' := 57) rfl rfl rfl ?_
    refine h_iload_n (pc' := 58) rfl rfl rfl ?_
    refine h_call (sp := false) (pc' := 61) (M := [(0, .ref 66), (1, .int x1), (2, .int (Int32.ofInt (-4)))]) rfl rfl rfl rfl rfl rfl rfl rfl ?_
    refine h_aload_n (pc' := 1) rfl rfl rfl ?_
    refine h_getI (pc' := 4) (v := σ1 66 9) rfl rfl rfl rfl rfl rfl (fun z8 hz8 => ?_)
    have tz8 := tf_66_9 hI1
    refine h_iconst (pc' := 5) (x := (Int32.ofInt 3)) rfl rfl rfl ?_
    refine h_cge (tg := 48) (pc' := 8) rfl rfl rfl hz8 ci_3 (fun c9 => absurd c9 (by omega)) (fun c9 => ?_)
    clear hz8
    refine h_aload_n (pc' := 9) rfl rfl rfl ?_
    refine h_getR (pc' := 12) rfl rfl rfl rfl rfl ?_
    refine h_aload_n (pc' := 13) rfl rfl rfl ?_
    refine h_getI (pc' := 16) (v := σ1 66 9) rfl rfl rfl rfl rfl rfl (fun z10 hz10 => ?_)
    refine h_iload_n (pc' := 17) rfl rfl rfl ?_
    refine h_iast (pc' := 18) rfl rfl rfl rfl hz10 (by omega) (by omega) hx1 (h_fgt (E := fun s => s 64 2 = σ1 64 2 ∧ s 64 4 = σ1 64 4 ∧ s 64 3 = σ1 64 3 ∧ s 64 5 = σ1 64 5 ∧ s 63 2 = σ1 63 2 ∧ s 63 3 = σ1 63 3 ∧ s 64 1 = σ1 64 1 ∧ s 66 8 = σ1 66 8 ∧ s 66 9 = σ1 66 9 ∧ s 66 10 = σ1 66 10 ∧ s 69 2 = σ1 69 2 ∧ s 72 2 = σ1 72 2 ∧ s 63 5 = σ1 63 5 ∧ s = h_up σ1 75 (σ1 66 9) a1) _ (in_75 hI1 (by omega)) (F1.up rfl) ⟨rfl, rfl, rfl, rfl, rfl, rfl, rfl, rfl, rfl, rfl, rfl, rfl, rfl, rfl⟩ (fun s11 Is11 Fs11 (es11 : s11 64 2 = σ1 64 2 ∧ s11 64 4 = σ1 64 4 ∧ s11 64 3 = σ1 64 3 ∧ s11 64 5 = σ1 64 5 ∧ s11 63 2 = σ1 63 2 ∧ s11 63 3 = σ1 63 3 ∧ s11 64 1 = σ1 64 1 ∧ s11 66 8 = σ1 66 8 ∧ s11 66 9 = σ1 66 9 ∧ s11 66 10 = σ1 66 10 ∧ s11 69 2 = σ1 69 2 ∧ s11 72 2 = σ1 72 2 ∧ s11 63 5 = σ1 63 5 ∧ s11 = h_up σ1 75 (σ1 66 9) a1) => ?_))
    clear hz10
    refine h_aload_n (pc' := 19) rfl rfl rfl ?_
    refine h_getR (pc' := 22) rfl rfl rfl rfl rfl ?_
    refine h_aload_n (pc' := 23) rfl rfl rfl ?_
    refine h_getI (pc' := 26) (v := σ1 66 9) rfl rfl rfl rfl rfl es11.2.2.2.2.2.2.2.2.1 (fun z12 hz12 => ?_)
    refine h_iload_n (pc' := 27) rfl rfl rfl ?_
    refine h_iast (pc' := 28) rfl rfl rfl rfl hz12 (by omega) (by omega) ci_m4 (h_fgt (E := fun s => s 64 2 = σ1 64 2 ∧ s 64 4 = σ1 64 4 ∧ s 64 3 = σ1 64 3 ∧ s 64 5 = σ1 64 5 ∧ s 63 2 = σ1 63 2 ∧ s 63 3 = σ1 63 3 ∧ s 64 1 = σ1 64 1 ∧ s 66 8 = σ1 66 8 ∧ s 66 9 = σ1 66 9 ∧ s 66 10 = σ1 66 10 ∧ s 69 2 = σ1 69 2 ∧ s 72 2 = σ1 72 2 ∧ s 63 5 = σ1 63 5 ∧ s = h_up s11 76 (σ1 66 9) (-4)) _ (in_76 Is11 (by omega)) (Fs11.up rfl) ⟨es11.1, es11.2.1, es11.2.2.1, es11.2.2.2.1, es11.2.2.2.2.1, es11.2.2.2.2.2.1, es11.2.2.2.2.2.2.1, es11.2.2.2.2.2.2.2.1, es11.2.2.2.2.2.2.2.2.1, es11.2.2.2.2.2.2.2.2.2.1, es11.2.2.2.2.2.2.2.2.2.2.1, es11.2.2.2.2.2.2.2.2.2.2.2.1, es11.2.2.2.2.2.2.2.2.2.2.2.2.1, rfl⟩ (fun s13 Is13 Fs13 (es13 : s13 64 2 = σ1 64 2 ∧ s13 64 4 = σ1 64 4 ∧ s13 64 3 = σ1 64 3 ∧ s13 64 5 = σ1 64 5 ∧ s13 63 2 = σ1 63 2 ∧ s13 63 3 = σ1 63 3 ∧ s13 64 1 = σ1 64 1 ∧ s13 66 8 = σ1 66 8 ∧ s13 66 9 = σ1 66 9 ∧ s13 66 10 = σ1 66 10 ∧ s13 69 2 = σ1 69 2 ∧ s13 72 2 = σ1 72 2 ∧ s13 63 5 = σ1 63 5 ∧ s13 = h_up s11 76 (σ1 66 9) (-4)) => ?_))
    clear hz12
    refine h_aload_n (pc' := 29) rfl rfl rfl ?_
    refine h_getR (pc' := 32) rfl rfl rfl rfl rfl ?_
    refine h_aload_n (pc' := 33) rfl rfl rfl ?_
    refine h_getI (pc' := 36) (v := σ1 66 9) rfl rfl rfl rfl rfl es13.2.2.2.2.2.2.2.2.1 (fun z14 hz14 => ?_)
    refine h_iconst (pc' := 37) (x := (Int32.ofInt 0)) rfl rfl rfl ?_
    refine h_iast (pc' := 38) rfl rfl rfl rfl hz14 (by omega) (by omega) ci_0 (h_fgt (E := fun s => s 64 2 = σ1 64 2 ∧ s 64 4 = σ1 64 4 ∧ s 64 3 = σ1 64 3 ∧ s 64 5 = σ1 64 5 ∧ s 63 2 = σ1 63 2 ∧ s 63 3 = σ1 63 3 ∧ s 64 1 = σ1 64 1 ∧ s 66 8 = σ1 66 8 ∧ s 66 9 = σ1 66 9 ∧ s 66 10 = σ1 66 10 ∧ s 69 2 = σ1 69 2 ∧ s 72 2 = σ1 72 2 ∧ s 63 5 = σ1 63 5 ∧ s = h_up s13 77 (σ1 66 9) 0) _ (in_77 Is13 (by omega)) (Fs13.up rfl) ⟨es13.1, es13.2.1, es13.2.2.1, es13.2.2.2.1, es13.2.2.2.2.1, es13.2.2.2.2.2.1, es13.2.2.2.2.2.2.1, es13.2.2.2.2.2.2.2.1, es13.2.2.2.2.2.2.2.2.1, es13.2.2.2.2.2.2.2.2.2.1, es13.2.2.2.2.2.2.2.2.2.2.1, es13.2.2.2.2.2.2.2.2.2.2.2.1, es13.2.2.2.2.2.2.2.2.2.2.2.2.1, rfl⟩ (fun s15 Is15 Fs15 (es15 : s15 64 2 = σ1 64 2 ∧ s15 64 4 = σ1 64 4 ∧ s15 64 3 = σ1 64 3 ∧ s15 64 5 = σ1 64 5 ∧ s15 63 2 = σ1 63 2 ∧ s15 63 3 = σ1 63 3 ∧ s15 64 1 = σ1 64 1 ∧ s15 66 8 = σ1 66 8 ∧ s15 66 9 = σ1 66 9 ∧ s15 66 10 = σ1 66 10 ∧ s15 69 2 = σ1 69 2 ∧ s15 72 2 = σ1 72 2 ∧ s15 63 5 = σ1 63 5 ∧ s15 = h_up s13 77 (σ1 66 9) 0) => ?_))
    clear hz14
    refine h_aload_n (pc' := 39) rfl rfl rfl ?_
    refine h_dup (pc' := 40) rfl rfl rfl ?_
    refine h_getI (pc' := 43) (v := σ1 66 9) rfl rfl rfl rfl rfl es15.2.2.2.2.2.2.2.2.1 (fun z16 hz16 => ?_)
    refine h_iconst (pc' := 44) (x := (Int32.ofInt 1)) rfl rfl rfl ?_
    refine h_iadd (pc' := 45) rfl rfl hz16 ci_1 rfl (by omega) (by omega) (fun z17 hz17 => ?_)
    clear hz16
    refine h_put (pc' := 48) rfl rfl rfl rfl rfl rfl hz17 rfl (h_fgt (E := fun s => s 64 2 = σ1 64 2 ∧ s 64 4 = σ1 64 4 ∧ s 64 3 = σ1 64 3 ∧ s 64 5 = σ1 64 5 ∧ s 63 2 = σ1 63 2 ∧ s 63 3 = σ1 63 3 ∧ s 64 1 = σ1 64 1 ∧ s 66 8 = σ1 66 8 ∧ s 66 9 = ((σ1 66 9) + 1) ∧ s 66 10 = σ1 66 10 ∧ s 69 2 = σ1 69 2 ∧ s 72 2 = σ1 72 2 ∧ s 63 5 = σ1 63 5 ∧ s = h_up s15 66 9 ((σ1 66 9) + 1)) _ (if_66_9 Is15 (by omega)) (Fs15.up rfl) ⟨es15.1, es15.2.1, es15.2.2.1, es15.2.2.2.1, es15.2.2.2.2.1, es15.2.2.2.2.2.1, es15.2.2.2.2.2.2.1, es15.2.2.2.2.2.2.2.1, rfl, es15.2.2.2.2.2.2.2.2.2.1, es15.2.2.2.2.2.2.2.2.2.2.1, es15.2.2.2.2.2.2.2.2.2.2.2.1, es15.2.2.2.2.2.2.2.2.2.2.2.2.1, rfl⟩ (fun s18 Is18 Fs18 (es18 : s18 64 2 = σ1 64 2 ∧ s18 64 4 = σ1 64 4 ∧ s18 64 3 = σ1 64 3 ∧ s18 64 5 = σ1 64 5 ∧ s18 63 2 = σ1 63 2 ∧ s18 63 3 = σ1 63 3 ∧ s18 64 1 = σ1 64 1 ∧ s18 66 8 = σ1 66 8 ∧ s18 66 9 = ((σ1 66 9) + 1) ∧ s18 66 10 = σ1 66 10 ∧ s18 69 2 = σ1 69 2 ∧ s18 72 2 = σ1 72 2 ∧ s18 63 5 = σ1 63 5 ∧ s18 = h_up s15 66 9 ((σ1 66 9) + 1)) => ?_))
    refine h_vret rfl rfl (h_Kn ?_)
    refine d_toM (g_inj ns) hl2 hR2 (fun lvw19 memw19 hlw19 hRw19 => ?_)
    show h_T g_P (g_Y ns) 153 128 [(0, .ref 98)] [] σ2 _
    refine h_aload_n (pc' := 129) rfl rfl rfl ?_
    refine h_getI (pc' := 132) (v := σ2 98 13) rfl rfl rfl rfl rfl rfl (fun z20 hz20 => ?_)
    have tz20 := tf_98_13 hI2
    refine h_zne (tg := 161) (pc' := 135) rfl rfl rfl hz20 (fun c21 => absurd c21 (by omega)) (fun c21 => ?_)
    clear hz20
    refine h_aload_n (pc' := 136) rfl rfl rfl ?_
    refine h_getI (pc' := 139) (v := σ2 98 17) rfl rfl rfl rfl rfl rfl (fun z22 hz22 => ?_)
    have tz22 := tf_98_17 hI2
    refine h_iconst (pc' := 140) (x := (Int32.ofInt 2)) rfl rfl rfl ?_
    refine h_cne (tg := 161) (pc' := 143) rfl rfl rfl hz22 ci_2 (fun c23 => ?_) (fun c23 => absurd c23 (by omega))
    clear hz22
    refine h_aload_n (pc' := 162) rfl rfl rfl ?_
    refine h_dup (pc' := 163) rfl rfl rfl ?_
    refine h_getI (pc' := 166) (v := σ2 98 6) rfl rfl rfl rfl rfl rfl (fun z24 hz24 => ?_)
    have tz24 := tf_98_6 hI2
    refine h_iconst (pc' := 167) (x := (Int32.ofInt 1)) rfl rfl rfl ?_
    refine h_iadd (pc' := 168) rfl rfl hz24 ci_1 rfl (by omega) (by omega) (fun z25 hz25 => ?_)
    clear hz24
    refine h_put (pc' := 171) rfl rfl rfl rfl rfl rfl hz25 rfl (h_fgt (E := fun s => s 98 15 = σ2 98 15 ∧ s 98 16 = σ2 98 16 ∧ s 98 17 = σ2 98 17 ∧ s 98 18 = σ2 98 18 ∧ s 98 13 = σ2 98 13 ∧ s 98 14 = σ2 98 14 ∧ s 98 5 = σ2 98 5 ∧ s 98 6 = ((σ2 98 6) + 1) ∧ s 98 7 = σ2 98 7 ∧ s 98 8 = σ2 98 8 ∧ s 98 9 = σ2 98 9 ∧ s 101 18 = σ2 101 18 ∧ s 101 25 = σ2 101 25 ∧ s 101 43 = σ2 101 43 ∧ s = h_up σ2 98 6 ((σ2 98 6) + 1)) _ (if_98_6 hI2 (by omega)) (F2.up rfl) ⟨rfl, rfl, rfl, rfl, rfl, rfl, rfl, rfl, rfl, rfl, rfl, rfl, rfl, rfl, rfl⟩ (fun s26 Is26 Fs26 (es26 : s26 98 15 = σ2 98 15 ∧ s26 98 16 = σ2 98 16 ∧ s26 98 17 = σ2 98 17 ∧ s26 98 18 = σ2 98 18 ∧ s26 98 13 = σ2 98 13 ∧ s26 98 14 = σ2 98 14 ∧ s26 98 5 = σ2 98 5 ∧ s26 98 6 = ((σ2 98 6) + 1) ∧ s26 98 7 = σ2 98 7 ∧ s26 98 8 = σ2 98 8 ∧ s26 98 9 = σ2 98 9 ∧ s26 101 18 = σ2 101 18 ∧ s26 101 25 = σ2 101 25 ∧ s26 101 43 = σ2 101 43 ∧ s26 = h_up σ2 98 6 ((σ2 98 6) + 1)) => ?_))
    refine h_goto (pc' := 178) rfl rfl ?_
    refine d_toL (g_inj ns) hlw19 hRw19 (fun lvw27 memw27 hlw27 hRw27 => ?_)
    show h_T g_P (g_Y ns) 61 61 [(2, .int (Int32.ofInt (-4))), (0, .ref 63), (1, .int x1)] [] s18 _
    exact h_wk [(0, .ref 63)] ⟨rfl, trivial⟩ (kx0 _ _ Is18 Is26 Fs18 Fs26 (by omega) (by omega) (by omega) (by omega) (by omega) (fun _ => d_mk (es18.2.2.2.2.2.2.2.1) (es18.2.2.2.2.2.2.2.2.1) (es18.2.2.2.2.2.2.2.2.2.1) (es18.2.2.2.2.2.2.2.2.2.2.1) (es18.2.2.2.2.2.2.2.2.2.2.2.1) (es18.2.2.2.2.2.2.2.2.2.2.2.2.1) (fun j => (h_upo es18.2.2.2.2.2.2.2.2.2.2.2.2.2 rfl j).trans ((h_upo es15.2.2.2.2.2.2.2.2.2.2.2.2.2 rfl j).trans ((h_upo es13.2.2.2.2.2.2.2.2.2.2.2.2.2 rfl j).trans ((h_upo es11.2.2.2.2.2.2.2.2.2.2.2.2.2 rfl j))))) (fun j => (h_upo es18.2.2.2.2.2.2.2.2.2.2.2.2.2 rfl j).trans ((h_upo es15.2.2.2.2.2.2.2.2.2.2.2.2.2 rfl j).trans ((h_upo es13.2.2.2.2.2.2.2.2.2.2.2.2.2 rfl j).trans ((h_upo es11.2.2.2.2.2.2.2.2.2.2.2.2.2 rfl j))))) (fun j => (h_upo es18.2.2.2.2.2.2.2.2.2.2.2.2.2 rfl j).trans ((h_upo es15.2.2.2.2.2.2.2.2.2.2.2.2.2 rfl j).trans ((h_upo es13.2.2.2.2.2.2.2.2.2.2.2.2.2 rfl j).trans ((h_upo es11.2.2.2.2.2.2.2.2.2.2.2.2.2 rfl j))))) (fun j => (h_upo es18.2.2.2.2.2.2.2.2.2.2.2.2.2 rfl j).trans ((h_upo es15.2.2.2.2.2.2.2.2.2.2.2.2.2 rfl j).trans ((h_upo es13.2.2.2.2.2.2.2.2.2.2.2.2.2 rfl j).trans ((h_upo es11.2.2.2.2.2.2.2.2.2.2.2.2.2 rfl j))))) (fun j => (h_upo es18.2.2.2.2.2.2.2.2.2.2.2.2.2 rfl j).trans ((h_upo es15.2.2.2.2.2.2.2.2.2.2.2.2.2 rfl j).trans ((h_upo es13.2.2.2.2.2.2.2.2.2.2.2.2.2 rfl j).trans ((h_upo es11.2.2.2.2.2.2.2.2.2.2.2.2.2 rfl j))))) (fun j => (h_upo es18.2.2.2.2.2.2.2.2.2.2.2.2.2 rfl j).trans ((h_upo es15.2.2.2.2.2.2.2.2.2.2.2.2.2 rfl j).trans ((h_upo es13.2.2.2.2.2.2.2.2.2.2.2.2.2 rfl j).trans ((h_upo es11.2.2.2.2.2.2.2.2.2.2.2.2.2 rfl j))))) (fun j => (h_upo es18.2.2.2.2.2.2.2.2.2.2.2.2.2 rfl j).trans ((h_upo es15.2.2.2.2.2.2.2.2.2.2.2.2.2 rfl j).trans ((h_upo es13.2.2.2.2.2.2.2.2.2.2.2.2.2 rfl j).trans ((h_upi es11.2.2.2.2.2.2.2.2.2.2.2.2.2 j))))) (fun j => (h_upo es18.2.2.2.2.2.2.2.2.2.2.2.2.2 rfl j).trans ((h_upo es15.2.2.2.2.2.2.2.2.2.2.2.2.2 rfl j).trans ((h_upi es13.2.2.2.2.2.2.2.2.2.2.2.2.2 j).trans (congrArg (fun z => if j = (σ1 66 9) then (-4) else z) ((h_upo es11.2.2.2.2.2.2.2.2.2.2.2.2.2 rfl j)))))) (fun j => (h_upo es18.2.2.2.2.2.2.2.2.2.2.2.2.2 rfl j).trans ((h_upi es15.2.2.2.2.2.2.2.2.2.2.2.2.2 j).trans (congrArg (fun z => if j = (σ1 66 9) then 0 else z) ((h_upo es13.2.2.2.2.2.2.2.2.2.2.2.2.2 rfl j).trans ((h_upo es11.2.2.2.2.2.2.2.2.2.2.2.2.2 rfl j)))))) (fun j => (h_upo es18.2.2.2.2.2.2.2.2.2.2.2.2.2 rfl j).trans ((h_upo es15.2.2.2.2.2.2.2.2.2.2.2.2.2 rfl j).trans ((h_upo es13.2.2.2.2.2.2.2.2.2.2.2.2.2 rfl j).trans ((h_upo es11.2.2.2.2.2.2.2.2.2.2.2.2.2 rfl j))))) (es26.2.2.2.2.2.2.1) (es26.2.2.2.2.2.2.2.1) (es26.2.2.2.2.2.2.2.2.1) (es26.2.2.2.2.2.2.2.2.2.1) (es26.2.2.2.2.2.2.2.2.2.2.1) (fun j => (h_upo es26.2.2.2.2.2.2.2.2.2.2.2.2.2.2 rfl j)) (r_gatA pr10 (by omega) (by omega) (by omega) (by omega) (by omega) (by omega) (by omega))) (Or.inr (Or.inl ⟨by omega, by omega, by omega, by omega, by omega, by omega⟩)) _ _ (h_al_ok ⟨rfl, trivial⟩ hlw27) hRw27)
  · show h_T g_P (g_Y ns) 61 27 [(0, .ref 63), (1, .int x1)] [] σ1 _
    refine h_aload_n (pc' := 28) rfl rfl rfl ?_
    refine h_call (sp := false) (pc' := 31) (M := [(0, .ref 63)]) rfl rfl rfl rfl rfl rfl rfl rfl ?_
    refine h_aload_n (pc' := 1) rfl rfl rfl ?_
    refine h_getI (pc' := 4) (v := σ1 63 2) rfl rfl rfl rfl rfl rfl (fun z28 hz28 => ?_)
    have tz28 := tf_63_2 hI1
    refine h_zne (tg := 22) (pc' := 7) rfl rfl rfl hz28 (fun c29 => absurd c29 (by omega)) (fun c29 => ?_)
    clear hz28
    refine h_aload_n (pc' := 8) rfl rfl rfl ?_
    refine h_getR (pc' := 11) rfl rfl rfl rfl rfl ?_
    refine h_getI (pc' := 14) (v := σ1 64 3) rfl rfl rfl rfl rfl rfl (fun z30 hz30 => ?_)
    have tz30 := tf_64_3 hI1
    refine h_iconst (pc' := 15) (x := (Int32.ofInt 2)) rfl rfl rfl ?_
    refine h_cne (tg := 22) (pc' := 18) rfl rfl rfl hz30 ci_2 (fun c31 => ?_) (fun c31 => absurd c31 (by omega))
    clear hz30
    refine h_iconst (pc' := 23) (x := (Int32.ofInt 0)) rfl rfl rfl ?_
    refine h_zret rfl rfl ci_0 (by omega) (h_Kv ?_)
    refine h_zeq (tg := 42) (pc' := 34) rfl rfl rfl ci_0 (fun c32 => ?_) (fun c32 => absurd c32 (by omega))
    refine h_bipush (pc' := 44) (x := (Int32.ofInt (-4))) rfl rfl cb_m4 ?_
    refine h_istore_n (pc' := 45) (M := [(2, .int (Int32.ofInt (-4))), (0, .ref 63), (1, .int x1)]) rfl rfl rfl rfl ?_
    refine h_aload_n (pc' := 46) rfl rfl rfl ?_
    refine h_getI (pc' := 49) (v := σ1 63 2) rfl rfl rfl rfl rfl rfl (fun z33 hz33 => ?_)
    refine h_zne (tg := 61) (pc' := 52) rfl rfl rfl hz33 (fun c34 => absurd c34 (by omega)) (fun c34 => ?_)
    clear hz33
    refine h_aload_n (pc' := 53) rfl rfl rfl ?_
    refine h_getR (pc' := 56) rfl rfl rfl rfl rfl ?_
    refine h_iload_n (pc' := 57) rfl rfl rfl ?_
    refine h_iload_n (pc' := 58) rfl rfl rfl ?_
    refine h_call (sp := false) (pc' := 61) (M := [(0, .ref 66), (1, .int x1), (2, .int (Int32.ofInt (-4)))]) rfl rfl rfl rfl rfl rfl rfl rfl ?_
    refine h_aload_n (pc' := 1) rfl rfl rfl ?_
    refine h_getI (pc' := 4) (v := σ1 66 9) rfl rfl rfl rfl rfl rfl (fun z35 hz35 => ?_)
    have tz35 := tf_66_9 hI1
    refine h_iconst (pc' := 5) (x := (Int32.ofInt 3)) rfl rfl rfl ?_
    refine h_cge (tg := 48) (pc' := 8) rfl rfl rfl hz35 ci_3 (fun c36 => absurd c36 (by omega)) (fun c36 => ?_)
    clear hz35
    refine h_aload_n (pc' := 9) rfl rfl rfl ?_
    refine h_getR (pc' := 12) rfl rfl rfl rfl rfl ?_
    refine h_aload_n (pc' := 13) rfl rfl rfl ?_
    refine h_getI (pc' := 16) (v := σ1 66 9) rfl rfl rfl rfl rfl rfl (fun z37 hz37 => ?_)
    refine h_iload_n (pc' := 17) rfl rfl rfl ?_
    refine h_iast (pc' := 18) rfl rfl rfl rfl hz37 (by omega) (by omega) hx1 (h_fgt (E := fun s => s 64 2 = σ1 64 2 ∧ s 64 4 = σ1 64 4 ∧ s 64 3 = σ1 64 3 ∧ s 64 5 = σ1 64 5 ∧ s 63 2 = σ1 63 2 ∧ s 63 3 = σ1 63 3 ∧ s 64 1 = σ1 64 1 ∧ s 66 8 = σ1 66 8 ∧ s 66 9 = σ1 66 9 ∧ s 66 10 = σ1 66 10 ∧ s 69 2 = σ1 69 2 ∧ s 72 2 = σ1 72 2 ∧ s 63 5 = σ1 63 5 ∧ s = h_up σ1 75 (σ1 66 9) a1) _ (in_75 hI1 (by omega)) (F1.up rfl) ⟨rfl, rfl, rfl, rfl, rfl, rfl, rfl, rfl, rfl, rfl, rfl, rfl, rfl, rfl⟩ (fun s38 Is38 Fs38 (es38 : s38 64 2 = σ1 64 2 ∧ s38 64 4 = σ1 64 4 ∧ s38 64 3 = σ1 64 3 ∧ s38 64 5 = σ1 64 5 ∧ s38 63 2 = σ1 63 2 ∧ s38 63 3 = σ1 63 3 ∧ s38 64 1 = σ1 64 1 ∧ s38 66 8 = σ1 66 8 ∧ s38 66 9 = σ1 66 9 ∧ s38 66 10 = σ1 66 10 ∧ s38 69 2 = σ1 69 2 ∧ s38 72 2 = σ1 72 2 ∧ s38 63 5 = σ1 63 5 ∧ s38 = h_up σ1 75 (σ1 66 9) a1) => ?_))
    clear hz37
    refine h_aload_n (pc' := 19) rfl rfl rfl ?_
    refine h_getR (pc' := 22) rfl rfl rfl rfl rfl ?_
    refine h_aload_n (pc' := 23) rfl rfl rfl ?_
    refine h_getI (pc' := 26) (v := σ1 66 9) rfl rfl rfl rfl rfl es38.2.2.2.2.2.2.2.2.1 (fun z39 hz39 => ?_)
    refine h_iload_n (pc' := 27) rfl rfl rfl ?_
    refine h_iast (pc' := 28) rfl rfl rfl rfl hz39 (by omega) (by omega) ci_m4 (h_fgt (E := fun s => s 64 2 = σ1 64 2 ∧ s 64 4 = σ1 64 4 ∧ s 64 3 = σ1 64 3 ∧ s 64 5 = σ1 64 5 ∧ s 63 2 = σ1 63 2 ∧ s 63 3 = σ1 63 3 ∧ s 64 1 = σ1 64 1 ∧ s 66 8 = σ1 66 8 ∧ s 66 9 = σ1 66 9 ∧ s 66 10 = σ1 66 10 ∧ s 69 2 = σ1 69 2 ∧ s 72 2 = σ1 72 2 ∧ s 63 5 = σ1 63 5 ∧ s = h_up s38 76 (σ1 66 9) (-4)) _ (in_76 Is38 (by omega)) (Fs38.up rfl) ⟨es38.1, es38.2.1, es38.2.2.1, es38.2.2.2.1, es38.2.2.2.2.1, es38.2.2.2.2.2.1, es38.2.2.2.2.2.2.1, es38.2.2.2.2.2.2.2.1, es38.2.2.2.2.2.2.2.2.1, es38.2.2.2.2.2.2.2.2.2.1, es38.2.2.2.2.2.2.2.2.2.2.1, es38.2.2.2.2.2.2.2.2.2.2.2.1, es38.2.2.2.2.2.2.2.2.2.2.2.2.1, rfl⟩ (fun s40 Is40 Fs40 (es40 : s40 64 2 = σ1 64 2 ∧ s40 64 4 = σ1 64 4 ∧ s40 64 3 = σ1 64 3 ∧ s40 64 5 = σ1 64 5 ∧ s40 63 2 = σ1 63 2 ∧ s40 63 3 = σ1 63 3 ∧ s40 64 1 = σ1 64 1 ∧ s40 66 8 = σ1 66 8 ∧ s40 66 9 = σ1 66 9 ∧ s40 66 10 = σ1 66 10 ∧ s40 69 2 = σ1 69 2 ∧ s40 72 2 = σ1 72 2 ∧ s40 63 5 = σ1 63 5 ∧ s40 = h_up s38 76 (σ1 66 9) (-4)) => ?_))
    clear hz39
    refine h_aload_n (pc' := 29) rfl rfl rfl ?_
    refine h_getR (pc' := 32) rfl rfl rfl rfl rfl ?_
    refine h_aload_n (pc' := 33) rfl rfl rfl ?_
    refine h_getI (pc' := 36) (v := σ1 66 9) rfl rfl rfl rfl rfl es40.2.2.2.2.2.2.2.2.1 (fun z41 hz41 => ?_)
    refine h_iconst (pc' := 37) (x := (Int32.ofInt 0)) rfl rfl rfl ?_
    refine h_iast (pc' := 38) rfl rfl rfl rfl hz41 (by omega) (by omega) ci_0 (h_fgt (E := fun s => s 64 2 = σ1 64 2 ∧ s 64 4 = σ1 64 4 ∧ s 64 3 = σ1 64 3 ∧ s 64 5 = σ1 64 5 ∧ s 63 2 = σ1 63 2 ∧ s 63 3 = σ1 63 3 ∧ s 64 1 = σ1 64 1 ∧ s 66 8 = σ1 66 8 ∧ s 66 9 = σ1 66 9 ∧ s 66 10 = σ1 66 10 ∧ s 69 2 = σ1 69 2 ∧ s 72 2 = σ1 72 2 ∧ s 63 5 = σ1 63 5 ∧ s = h_up s40 77 (σ1 66 9) 0) _ (in_77 Is40 (by omega)) (Fs40.up rfl) ⟨es40.1, es40.2.1, es40.2.2.1, es40.2.2.2.1, es40.2.2.2.2.1, es40.2.2.2.2.2.1, es40.2.2.2.2.2.2.1, es40.2.2.2.2.2.2.2.1, es40.2.2.2.2.2.2.2.2.1, es40.2.2.2.2.2.2.2.2.2.1, es40.2.2.2.2.2.2.2.2.2.2.1, es40.2.2.2.2.2.2.2.2.2.2.2.1, es40.2.2.2.2.2.2.2.2.2.2.2.2.1, rfl⟩ (fun s42 Is42 Fs42 (es42 : s42 64 2 = σ1 64 2 ∧ s42 64 4 = σ1 64 4 ∧ s42 64 3 = σ1 64 3 ∧ s42 64 5 = σ1 64 5 ∧ s42 63 2 = σ1 63 2 ∧ s42 63 3 = σ1 63 3 ∧ s42 64 1 = σ1 64 1 ∧ s42 66 8 = σ1 66 8 ∧ s42 66 9 = σ1 66 9 ∧ s42 66 10 = σ1 66 10 ∧ s42 69 2 = σ1 69 2 ∧ s42 72 2 = σ1 72 2 ∧ s42 63 5 = σ1 63 5 ∧ s42 = h_up s40 77 (σ1 66 9) 0) => ?_))
    clear hz41
    refine h_aload_n (pc' := 39) rfl rfl rfl ?_
    refine h_dup (pc' := 40) rfl rfl rfl ?_
    refine h_getI (pc' := 43) (v := σ1 66 9) rfl rfl rfl rfl rfl es42.2.2.2.2.2.2.2.2.1 (fun z43 hz43 => ?_)
    refine h_iconst (pc' := 44) (x := (Int32.ofInt 1)) rfl rfl rfl ?_
    refine h_iadd (pc' := 45) rfl rfl hz43 ci_1 rfl (by omega) (by omega) (fun z44 hz44 => ?_)
    clear hz43
    refine h_put (pc' := 48) rfl rfl rfl rfl rfl rfl hz44 rfl (h_fgt (E := fun s => s 64 2 = σ1 64 2 ∧ s 64 4 = σ1 64 4 ∧ s 64 3 = σ1 64 3 ∧ s 64 5 = σ1 64 5 ∧ s 63 2 = σ1 63 2 ∧ s 63 3 = σ1 63 3 ∧ s 64 1 = σ1 64 1 ∧ s 66 8 = σ1 66 8 ∧ s 66 9 = ((σ1 66 9) + 1) ∧ s 66 10 = σ1 66 10 ∧ s 69 2 = σ1 69 2 ∧ s 72 2 = σ1 72 2 ∧ s 63 5 = σ1 63 5 ∧ s = h_up s42 66 9 ((σ1 66 9) + 1)) _ (if_66_9 Is42 (by omega)) (Fs42.up rfl) ⟨es42.1, es42.2.1, es42.2.2.1, es42.2.2.2.1, es42.2.2.2.2.1, es42.2.2.2.2.2.1, es42.2.2.2.2.2.2.1, es42.2.2.2.2.2.2.2.1, rfl, es42.2.2.2.2.2.2.2.2.2.1, es42.2.2.2.2.2.2.2.2.2.2.1, es42.2.2.2.2.2.2.2.2.2.2.2.1, es42.2.2.2.2.2.2.2.2.2.2.2.2.1, rfl⟩ (fun s45 Is45 Fs45 (es45 : s45 64 2 = σ1 64 2 ∧ s45 64 4 = σ1 64 4 ∧ s45 64 3 = σ1 64 3 ∧ s45 64 5 = σ1 64 5 ∧ s45 63 2 = σ1 63 2 ∧ s45 63 3 = σ1 63 3 ∧ s45 64 1 = σ1 64 1 ∧ s45 66 8 = σ1 66 8 ∧ s45 66 9 = ((σ1 66 9) + 1) ∧ s45 66 10 = σ1 66 10 ∧ s45 69 2 = σ1 69 2 ∧ s45 72 2 = σ1 72 2 ∧ s45 63 5 = σ1 63 5 ∧ s45 = h_up s42 66 9 ((σ1 66 9) + 1)) => ?_))
    refine h_vret rfl rfl (h_Kn ?_)
    refine d_toM (g_inj ns) hl2 hR2 (fun lvw46 memw46 hlw46 hRw46 => ?_)
    show h_T g_P (g_Y ns) 153 128 [(0, .ref 98)] [] σ2 _
    refine h_aload_n (pc' := 129) rfl rfl rfl ?_
    refine h_getI (pc' := 132) (v := σ2 98 13) rfl rfl rfl rfl rfl rfl (fun z47 hz47 => ?_)
    have tz47 := tf_98_13 hI2
    refine h_zne (tg := 161) (pc' := 135) rfl rfl rfl hz47 (fun c48 => absurd c48 (by omega)) (fun c48 => ?_)
    clear hz47
    refine h_aload_n (pc' := 136) rfl rfl rfl ?_
    refine h_getI (pc' := 139) (v := σ2 98 17) rfl rfl rfl rfl rfl rfl (fun z49 hz49 => ?_)
    have tz49 := tf_98_17 hI2
    refine h_iconst (pc' := 140) (x := (Int32.ofInt 2)) rfl rfl rfl ?_
    refine h_cne (tg := 161) (pc' := 143) rfl rfl rfl hz49 ci_2 (fun c50 => ?_) (fun c50 => absurd c50 (by omega))
    clear hz49
    refine h_aload_n (pc' := 162) rfl rfl rfl ?_
    refine h_dup (pc' := 163) rfl rfl rfl ?_
    refine h_getI (pc' := 166) (v := σ2 98 6) rfl rfl rfl rfl rfl rfl (fun z51 hz51 => ?_)
    have tz51 := tf_98_6 hI2
    refine h_iconst (pc' := 167) (x := (Int32.ofInt 1)) rfl rfl rfl ?_
    refine h_iadd (pc' := 168) rfl rfl hz51 ci_1 rfl (by omega) (by omega) (fun z52 hz52 => ?_)
    clear hz51
    refine h_put (pc' := 171) rfl rfl rfl rfl rfl rfl hz52 rfl (h_fgt (E := fun s => s 98 15 = σ2 98 15 ∧ s 98 16 = σ2 98 16 ∧ s 98 17 = σ2 98 17 ∧ s 98 18 = σ2 98 18 ∧ s 98 13 = σ2 98 13 ∧ s 98 14 = σ2 98 14 ∧ s 98 5 = σ2 98 5 ∧ s 98 6 = ((σ2 98 6) + 1) ∧ s 98 7 = σ2 98 7 ∧ s 98 8 = σ2 98 8 ∧ s 98 9 = σ2 98 9 ∧ s 101 18 = σ2 101 18 ∧ s 101 25 = σ2 101 25 ∧ s 101 43 = σ2 101 43 ∧ s = h_up σ2 98 6 ((σ2 98 6) + 1)) _ (if_98_6 hI2 (by omega)) (F2.up rfl) ⟨rfl, rfl, rfl, rfl, rfl, rfl, rfl, rfl, rfl, rfl, rfl, rfl, rfl, rfl, rfl⟩ (fun s53 Is53 Fs53 (es53 : s53 98 15 = σ2 98 15 ∧ s53 98 16 = σ2 98 16 ∧ s53 98 17 = σ2 98 17 ∧ s53 98 18 = σ2 98 18 ∧ s53 98 13 = σ2 98 13 ∧ s53 98 14 = σ2 98 14 ∧ s53 98 5 = σ2 98 5 ∧ s53 98 6 = ((σ2 98 6) + 1) ∧ s53 98 7 = σ2 98 7 ∧ s53 98 8 = σ2 98 8 ∧ s53 98 9 = σ2 98 9 ∧ s53 101 18 = σ2 101 18 ∧ s53 101 25 = σ2 101 25 ∧ s53 101 43 = σ2 101 43 ∧ s53 = h_up σ2 98 6 ((σ2 98 6) + 1)) => ?_))
    refine h_goto (pc' := 178) rfl rfl ?_
    refine d_toL (g_inj ns) hlw46 hRw46 (fun lvw54 memw54 hlw54 hRw54 => ?_)
    show h_T g_P (g_Y ns) 61 61 [(2, .int (Int32.ofInt (-4))), (0, .ref 63), (1, .int x1)] [] s45 _
    exact h_wk [(0, .ref 63)] ⟨rfl, trivial⟩ (kx0 _ _ Is45 Is53 Fs45 Fs53 (by omega) (by omega) (by omega) (by omega) (by omega) (fun _ => d_mk (es45.2.2.2.2.2.2.2.1) (es45.2.2.2.2.2.2.2.2.1) (es45.2.2.2.2.2.2.2.2.2.1) (es45.2.2.2.2.2.2.2.2.2.2.1) (es45.2.2.2.2.2.2.2.2.2.2.2.1) (es45.2.2.2.2.2.2.2.2.2.2.2.2.1) (fun j => (h_upo es45.2.2.2.2.2.2.2.2.2.2.2.2.2 rfl j).trans ((h_upo es42.2.2.2.2.2.2.2.2.2.2.2.2.2 rfl j).trans ((h_upo es40.2.2.2.2.2.2.2.2.2.2.2.2.2 rfl j).trans ((h_upo es38.2.2.2.2.2.2.2.2.2.2.2.2.2 rfl j))))) (fun j => (h_upo es45.2.2.2.2.2.2.2.2.2.2.2.2.2 rfl j).trans ((h_upo es42.2.2.2.2.2.2.2.2.2.2.2.2.2 rfl j).trans ((h_upo es40.2.2.2.2.2.2.2.2.2.2.2.2.2 rfl j).trans ((h_upo es38.2.2.2.2.2.2.2.2.2.2.2.2.2 rfl j))))) (fun j => (h_upo es45.2.2.2.2.2.2.2.2.2.2.2.2.2 rfl j).trans ((h_upo es42.2.2.2.2.2.2.2.2.2.2.2.2.2 rfl j).trans ((h_upo es40.2.2.2.2.2.2.2.2.2.2.2.2.2 rfl j).trans ((h_upo es38.2.2.2.2.2.2.2.2.2.2.2.2.2 rfl j))))) (fun j => (h_upo es45.2.2.2.2.2.2.2.2.2.2.2.2.2 rfl j).trans ((h_upo es42.2.2.2.2.2.2.2.2.2.2.2.2.2 rfl j).trans ((h_upo es40.2.2.2.2.2.2.2.2.2.2.2.2.2 rfl j).trans ((h_upo es38.2.2.2.2.2.2.2.2.2.2.2.2.2 rfl j))))) (fun j => (h_upo es45.2.2.2.2.2.2.2.2.2.2.2.2.2 rfl j).trans ((h_upo es42.2.2.2.2.2.2.2.2.2.2.2.2.2 rfl j).trans ((h_upo es40.2.2.2.2.2.2.2.2.2.2.2.2.2 rfl j).trans ((h_upo es38.2.2.2.2.2.2.2.2.2.2.2.2.2 rfl j))))) (fun j => (h_upo es45.2.2.2.2.2.2.2.2.2.2.2.2.2 rfl j).trans ((h_upo es42.2.2.2.2.2.2.2.2.2.2.2.2.2 rfl j).trans ((h_upo es40.2.2.2.2.2.2.2.2.2.2.2.2.2 rfl j).trans ((h_upo es38.2.2.2.2.2.2.2.2.2.2.2.2.2 rfl j))))) (fun j => (h_upo es45.2.2.2.2.2.2.2.2.2.2.2.2.2 rfl j).trans ((h_upo es42.2.2.2.2.2.2.2.2.2.2.2.2.2 rfl j).trans ((h_upo es40.2.2.2.2.2.2.2.2.2.2.2.2.2 rfl j).trans ((h_upi es38.2.2.2.2.2.2.2.2.2.2.2.2.2 j))))) (fun j => (h_upo es45.2.2.2.2.2.2.2.2.2.2.2.2.2 rfl j).trans ((h_upo es42.2.2.2.2.2.2.2.2.2.2.2.2.2 rfl j).trans ((h_upi es40.2.2.2.2.2.2.2.2.2.2.2.2.2 j).trans (congrArg (fun z => if j = (σ1 66 9) then (-4) else z) ((h_upo es38.2.2.2.2.2.2.2.2.2.2.2.2.2 rfl j)))))) (fun j => (h_upo es45.2.2.2.2.2.2.2.2.2.2.2.2.2 rfl j).trans ((h_upi es42.2.2.2.2.2.2.2.2.2.2.2.2.2 j).trans (congrArg (fun z => if j = (σ1 66 9) then 0 else z) ((h_upo es40.2.2.2.2.2.2.2.2.2.2.2.2.2 rfl j).trans ((h_upo es38.2.2.2.2.2.2.2.2.2.2.2.2.2 rfl j)))))) (fun j => (h_upo es45.2.2.2.2.2.2.2.2.2.2.2.2.2 rfl j).trans ((h_upo es42.2.2.2.2.2.2.2.2.2.2.2.2.2 rfl j).trans ((h_upo es40.2.2.2.2.2.2.2.2.2.2.2.2.2 rfl j).trans ((h_upo es38.2.2.2.2.2.2.2.2.2.2.2.2.2 rfl j))))) (es53.2.2.2.2.2.2.1) (es53.2.2.2.2.2.2.2.1) (es53.2.2.2.2.2.2.2.2.1) (es53.2.2.2.2.2.2.2.2.2.1) (es53.2.2.2.2.2.2.2.2.2.2.1) (fun j => (h_upo es53.2.2.2.2.2.2.2.2.2.2.2.2.2.2 rfl j)) (r_gatA pr10 (by omega) (by omega) (by omega) (by omega) (by omega) (by omega) (by omega))) (Or.inr (Or.inr (Or.inl ⟨by omega, by omega, by omega, by omega, by omega, by omega⟩))) _ _ (h_al_ok ⟨rfl, trivial⟩ hlw54) hRw54)
  · show h_T g_P (g_Y ns) 61 27 [(0, .ref 63), (1, .int x1)] [] σ1 _
    refine h_aload_n (pc' := 28) rfl rfl rfl ?_
    refine h_call (sp := false) (pc' := 31) (M := [(0, .ref 63)]) rfl rfl rfl rfl rfl rfl rfl rfl ?_
    refine h_aload_n (pc' := 1) rfl rfl rfl ?_
    refine h_getI (pc' := 4) (v := σ1 63 2) rfl rfl rfl rfl rfl rfl (fun z55 hz55 => ?_)
    have tz55 := tf_63_2 hI1
    refine h_zne (tg := 22) (pc' := 7) rfl rfl rfl hz55 (fun c56 => absurd c56 (by omega)) (fun c56 => ?_)
    clear hz55
    refine h_aload_n (pc' := 8) rfl rfl rfl ?_
    refine h_getR (pc' := 11) rfl rfl rfl rfl rfl ?_
    refine h_getI (pc' := 14) (v := σ1 64 3) rfl rfl rfl rfl rfl rfl (fun z57 hz57 => ?_)
    have tz57 := tf_64_3 hI1
    refine h_iconst (pc' := 15) (x := (Int32.ofInt 2)) rfl rfl rfl ?_
    refine h_cne (tg := 22) (pc' := 18) rfl rfl rfl hz57 ci_2 (fun c58 => absurd c58 (by omega)) (fun c58 => ?_)
    clear hz57
    refine h_iconst (pc' := 19) (x := (Int32.ofInt 1)) rfl rfl rfl ?_
    refine h_goto (pc' := 23) rfl rfl ?_
    refine h_zret rfl rfl ci_1 (by omega) (h_Kv ?_)
    refine h_zeq (tg := 42) (pc' := 34) rfl rfl rfl ci_1 (fun c59 => absurd c59 (by omega)) (fun c59 => ?_)
    refine h_aload_n (pc' := 35) rfl rfl rfl ?_
    refine h_iconst (pc' := 36) (x := (Int32.ofInt 5)) rfl rfl rfl ?_
    refine d_toM (g_inj ns) hl2 hR2 (fun lvw60 memw60 hlw60 hRw60 => ?_)
    show h_T g_P (g_Y ns) 153 128 [(0, .ref 98)] [] σ2 _
    refine h_aload_n (pc' := 129) rfl rfl rfl ?_
    refine h_getI (pc' := 132) (v := σ2 98 13) rfl rfl rfl rfl rfl rfl (fun z61 hz61 => ?_)
    have tz61 := tf_98_13 hI2
    refine h_zne (tg := 161) (pc' := 135) rfl rfl rfl hz61 (fun c62 => absurd c62 (by omega)) (fun c62 => ?_)
    clear hz61
    refine h_aload_n (pc' := 136) rfl rfl rfl ?_
    refine h_getI (pc' := 139) (v := σ2 98 17) rfl rfl rfl rfl rfl rfl (fun z63 hz63 => ?_)
    have tz63 := tf_98_17 hI2
    refine h_iconst (pc' := 140) (x := (Int32.ofInt 2)) rfl rfl rfl ?_
    refine h_cne (tg := 161) (pc' := 143) rfl rfl rfl hz63 ci_2 (fun c64 => absurd c64 (by omega)) (fun c64 => ?_)
    clear hz63
    refine h_aload_n (pc' := 144) rfl rfl rfl ?_
    refine h_getR (pc' := 147) rfl rfl rfl rfl rfl ?_
    refine h_bipush (pc' := 149) (x := (Int32.ofInt 29)) rfl rfl cb_29 ?_
    refine h_aload_n (pc' := 150) rfl rfl rfl ?_
    refine h_getI (pc' := 153) (v := σ2 98 6) rfl rfl rfl rfl rfl rfl (fun z65 hz65 => ?_)
    have tz65 := tf_98_6 hI2
    refine h_iadd (pc' := 154) rfl rfl ci_29 hz65 rfl (by omega) (by omega) (fun z66 hz66 => ?_)
    clear hz65
    refine h_aload_n (pc' := 155) rfl rfl rfl ?_
    refine d_call (g_inj ns) (pc' := 158) (m := 150) (M := [(0, .ref 98)]) (rest := [.int z66, .ref 101]) ⟨false, _, _, _, _, _, _, rfl, rfl, rfl, rfl, rfl, rfl, rfl⟩ (fun lv67 hlv67 => ?_)
    refine h_aload_n (pc' := 1) rfl rfl rfl ?_
    refine h_iconst (pc' := 2) (x := (Int32.ofInt 0)) rfl rfl rfl ?_
    refine h_iconst (pc' := 3) (x := (Int32.ofInt 5)) rfl rfl rfl ?_
    refine d_pcall (g_inj ns) (m1 := 58) (pc1' := 39) (M1 := [(0, .ref 63), (1, .int (Int32.ofInt 5))]) (rest1 := []) (m2 := 149) (pc2' := 6) (M2 := [(0, .ref 98), (1, .int (Int32.ofInt 0)), (2, .int (Int32.ofInt 5))]) (rest2 := []) ⟨false, _, _, _, _, _, _, rfl, rfl, rfl, rfl, rfl, rfl, rfl⟩ ⟨false, _, _, _, _, _, _, rfl, rfl, rfl, rfl, rfl, rfl, rfl⟩ hRw60 ?_
    refine pp_num hI1 hI2 (hTL.fr (F1.mono rfl) (F2.mono rfl)) (Int32.ofInt 5) _ ci_5 (Int32.ofInt 5) _ ci_5 (by omega) (by omega) (by omega) (by omega) (by omega) (by omega) (Or.inr (Or.inr (Or.inr (Or.inl ⟨by omega, by omega, by omega, by omega, by omega, by omega, by omega, by omega⟩)))) (fun rq68x bq68x hq68x rq68m bq68m hq68m sq68 tq68 Isq68 Itq68 Gsq68 Gtq68 yq68_0 yq68_1 yq68_2 yq68_3 yq68_4 pcq68 memq68 hRq68 => ?_)
    have Fsq68 := (Gsq68.mono (B := k_pl) rfl).tr F1
    have Ftq68 := (Gtq68.mono (B := k_pm) rfl).tr F2
    have esq68_6 : sq68 64 1 = σ1 64 1 := (Gsq68 64 1 rfl).trans rfl
    have esq68_7 : sq68 66 8 = σ1 66 8 := (Gsq68 66 8 rfl).trans rfl
    have esq68_8 : sq68 66 9 = σ1 66 9 := (Gsq68 66 9 rfl).trans rfl
    have esq68_9 : sq68 66 10 = σ1 66 10 := (Gsq68 66 10 rfl).trans rfl
    have esq68_10 : sq68 69 2 = σ1 69 2 := (Gsq68 69 2 rfl).trans rfl
    have esq68_11 : sq68 72 2 = σ1 72 2 := (Gsq68 72 2 rfl).trans rfl
    have esq68_12 : sq68 63 5 = σ1 63 5 := (Gsq68 63 5 rfl).trans rfl
    have etq68_6 : tq68 98 5 = σ2 98 5 := (Gtq68 98 5 rfl).trans rfl
    have etq68_7 : tq68 98 6 = σ2 98 6 := (Gtq68 98 6 rfl).trans rfl
    have etq68_8 : tq68 98 7 = σ2 98 7 := (Gtq68 98 7 rfl).trans rfl
    have etq68_9 : tq68 98 8 = σ2 98 8 := (Gtq68 98 8 rfl).trans rfl
    have etq68_10 : tq68 98 9 = σ2 98 9 := (Gtq68 98 9 rfl).trans rfl
    have etq68_11 : tq68 101 18 = σ2 101 18 := (Gtq68 101 18 rfl).trans rfl
    have etq68_12 : tq68 101 25 = σ2 101 25 := (Gtq68 101 25 rfl).trans rfl
    have etq68_13 : tq68 101 43 = σ2 101 43 := (Gtq68 101 43 rfl).trans rfl
    rcases pcq68 with pcq68 | pcq68
    · show h_T g_P (g_Y ns) 150 6 [(0, .ref 98)] [.int rq68m] tq68 _
      refine h_istore_n (pc' := 7) (M := [(1, .int rq68m), (0, .ref 98)]) rfl rfl rfl rfl ?_
      have oH69 : tq68 98 8 = σ2 98 8 := etq68_9
      have uH69 := tf_98_8 Itq68
      refine lm_hi _ Itq68 rq68m _ hq68m (by omega) (fun H69 hH69 => (h_fgt (E := fun s => s 98 15 = tq68 98 15 ∧ s 98 16 = tq68 98 16 ∧ s 98 17 = tq68 98 17 ∧ s 98 18 = tq68 98 18 ∧ s 98 13 = tq68 98 13 ∧ s 98 14 = tq68 98 14 ∧ s 98 5 = σ2 98 5 ∧ s 98 6 = σ2 98 6 ∧ s 98 7 = σ2 98 7 ∧ s 98 8 = H69 ∧ s 98 9 = σ2 98 9 ∧ s 101 18 = σ2 101 18 ∧ s 101 25 = σ2 101 25 ∧ s 101 43 = σ2 101 43 ∧ s = h_up tq68 98 8 H69) _ (if_98_8 Itq68 (by omega)) (Ftq68.up rfl) ⟨rfl, rfl, rfl, rfl, rfl, rfl, etq68_6, etq68_7, etq68_8, rfl, etq68_10, etq68_11, etq68_12, etq68_13, rfl⟩ (fun s70 Is70 Fs70 (es70 : s70 98 15 = tq68 98 15 ∧ s70 98 16 = tq68 98 16 ∧ s70 98 17 = tq68 98 17 ∧ s70 98 18 = tq68 98 18 ∧ s70 98 13 = tq68 98 13 ∧ s70 98 14 = tq68 98 14 ∧ s70 98 5 = σ2 98 5 ∧ s70 98 6 = σ2 98 6 ∧ s70 98 7 = σ2 98 7 ∧ s70 98 8 = H69 ∧ s70 98 9 = σ2 98 9 ∧ s70 101 18 = σ2 101 18 ∧ s70 101 25 = σ2 101 25 ∧ s70 101 43 = σ2 101 43 ∧ s70 = h_up tq68 98 8 H69) => ?_)))
      refine h_iload_n (pc' := 28) rfl rfl rfl ?_
      refine h_iret rfl rfl (d_ret hlv67 ?_)
      refine h_iconst (pc' := 159) (x := (Int32.ofInt 1)) rfl rfl rfl ?_
      refine h_iadd (pc' := 160) rfl rfl hq68m ci_1 rfl (by have g0 := h_rgv hq68m; omega) (by have g0 := h_rgv hq68m; omega) (fun z71 hz71 => ?_)
      clear hq68m
      refine h_iast (pc' := 161) rfl rfl rfl rfl hz66 (by omega) (by omega) hz71 (h_fgt (E := fun s => s 98 15 = tq68 98 15 ∧ s 98 16 = tq68 98 16 ∧ s 98 17 = tq68 98 17 ∧ s 98 18 = tq68 98 18 ∧ s 98 13 = tq68 98 13 ∧ s 98 14 = tq68 98 14 ∧ s 98 5 = σ2 98 5 ∧ s 98 6 = σ2 98 6 ∧ s 98 7 = σ2 98 7 ∧ s 98 8 = H69 ∧ s 98 9 = σ2 98 9 ∧ s 101 18 = σ2 101 18 ∧ s 101 25 = σ2 101 25 ∧ s 101 43 = σ2 101 43 ∧ s = h_up s70 101 (29 + (σ2 98 6)) (bq68m + 1)) _ (ip_101_7 Is70 (by omega) (by omega)) (Fs70.up rfl) ⟨es70.1, es70.2.1, es70.2.2.1, es70.2.2.2.1, es70.2.2.2.2.1, es70.2.2.2.2.2.1, es70.2.2.2.2.2.2.1, es70.2.2.2.2.2.2.2.1, es70.2.2.2.2.2.2.2.2.1, es70.2.2.2.2.2.2.2.2.2.1, es70.2.2.2.2.2.2.2.2.2.2.1, h_up_n2 (by omega) es70.2.2.2.2.2.2.2.2.2.2.2.1, h_up_n2 (by omega) es70.2.2.2.2.2.2.2.2.2.2.2.2.1, h_up_n2 (by omega) es70.2.2.2.2.2.2.2.2.2.2.2.2.2.1, rfl⟩ (fun s72 Is72 Fs72 (es72 : s72 98 15 = tq68 98 15 ∧ s72 98 16 = tq68 98 16 ∧ s72 98 17 = tq68 98 17 ∧ s72 98 18 = tq68 98 18 ∧ s72 98 13 = tq68 98 13 ∧ s72 98 14 = tq68 98 14 ∧ s72 98 5 = σ2 98 5 ∧ s72 98 6 = σ2 98 6 ∧ s72 98 7 = σ2 98 7 ∧ s72 98 8 = H69 ∧ s72 98 9 = σ2 98 9 ∧ s72 101 18 = σ2 101 18 ∧ s72 101 25 = σ2 101 25 ∧ s72 101 43 = σ2 101 43 ∧ s72 = h_up s70 101 (29 + (σ2 98 6)) (bq68m + 1)) => ?_))
      clear hz66 hz71
      refine h_aload_n (pc' := 162) rfl rfl rfl ?_
      refine h_dup (pc' := 163) rfl rfl rfl ?_
      refine h_getI (pc' := 166) (v := σ2 98 6) rfl rfl rfl rfl rfl es72.2.2.2.2.2.2.2.1 (fun z73 hz73 => ?_)
      refine h_iconst (pc' := 167) (x := (Int32.ofInt 1)) rfl rfl rfl ?_
      refine h_iadd (pc' := 168) rfl rfl hz73 ci_1 rfl (by omega) (by omega) (fun z74 hz74 => ?_)
      clear hz73
      refine h_put (pc' := 171) rfl rfl rfl rfl rfl rfl hz74 rfl (h_fgt (E := fun s => s 98 15 = tq68 98 15 ∧ s 98 16 = tq68 98 16 ∧ s 98 17 = tq68 98 17 ∧ s 98 18 = tq68 98 18 ∧ s 98 13 = tq68 98 13 ∧ s 98 14 = tq68 98 14 ∧ s 98 5 = σ2 98 5 ∧ s 98 6 = ((σ2 98 6) + 1) ∧ s 98 7 = σ2 98 7 ∧ s 98 8 = H69 ∧ s 98 9 = σ2 98 9 ∧ s 101 18 = σ2 101 18 ∧ s 101 25 = σ2 101 25 ∧ s 101 43 = σ2 101 43 ∧ s = h_up s72 98 6 ((σ2 98 6) + 1)) _ (if_98_6 Is72 (by omega)) (Fs72.up rfl) ⟨es72.1, es72.2.1, es72.2.2.1, es72.2.2.2.1, es72.2.2.2.2.1, es72.2.2.2.2.2.1, es72.2.2.2.2.2.2.1, rfl, es72.2.2.2.2.2.2.2.2.1, es72.2.2.2.2.2.2.2.2.2.1, es72.2.2.2.2.2.2.2.2.2.2.1, es72.2.2.2.2.2.2.2.2.2.2.2.1, es72.2.2.2.2.2.2.2.2.2.2.2.2.1, es72.2.2.2.2.2.2.2.2.2.2.2.2.2.1, rfl⟩ (fun s75 Is75 Fs75 (es75 : s75 98 15 = tq68 98 15 ∧ s75 98 16 = tq68 98 16 ∧ s75 98 17 = tq68 98 17 ∧ s75 98 18 = tq68 98 18 ∧ s75 98 13 = tq68 98 13 ∧ s75 98 14 = tq68 98 14 ∧ s75 98 5 = σ2 98 5 ∧ s75 98 6 = ((σ2 98 6) + 1) ∧ s75 98 7 = σ2 98 7 ∧ s75 98 8 = H69 ∧ s75 98 9 = σ2 98 9 ∧ s75 101 18 = σ2 101 18 ∧ s75 101 25 = σ2 101 25 ∧ s75 101 43 = σ2 101 43 ∧ s75 = h_up s72 98 6 ((σ2 98 6) + 1)) => ?_))
      refine h_goto (pc' := 178) rfl rfl ?_
      refine d_toL (g_inj ns) hlw60 hRq68 (fun lvw76 memw76 hlw76 hRw76 => ?_)
      show h_T g_P (g_Y ns) 61 39 [(0, .ref 63), (1, .int x1)] [.int rq68x] sq68 _
      refine h_goto (pc' := 44) rfl rfl ?_
      refine h_istore_n (pc' := 45) (M := [(2, .int rq68x), (0, .ref 63), (1, .int x1)]) rfl rfl rfl rfl ?_
      refine h_aload_n (pc' := 46) rfl rfl rfl ?_
      refine h_getI (pc' := 49) (v := sq68 63 2) rfl rfl rfl rfl rfl rfl (fun z77 hz77 => ?_)
      have tz77 := tf_63_2 Isq68
      refine h_zne (tg := 61) (pc' := 52) rfl rfl rfl hz77 (fun c78 => ?_) (fun c78 => absurd c78 (by omega))
      clear hz77
      exact h_wk [(0, .ref 63)] ⟨rfl, trivial⟩ (kx0 _ _ Isq68 Is75 Fsq68 Fs75 (by omega) (by omega) (by omega) (by omega) (by omega) (fun h => absurd h (by omega)) (Or.inl ⟨by omega, by omega, by omega, by omega⟩) _ _ (h_al_ok ⟨rfl, trivial⟩ hlw76) hRw76)
    · show h_T g_P (g_Y ns) 150 6 [(0, .ref 98)] [.int rq68m] tq68 _
      refine h_istore_n (pc' := 7) (M := [(1, .int rq68m), (0, .ref 98)]) rfl rfl rfl rfl ?_
      have oH79 : tq68 98 8 = σ2 98 8 := etq68_9
      have uH79 := tf_98_8 Itq68
      refine lm_hi _ Itq68 rq68m _ hq68m (by omega) (fun H79 hH79 => (h_fgt (E := fun s => s 98 15 = tq68 98 15 ∧ s 98 16 = tq68 98 16 ∧ s 98 17 = tq68 98 17 ∧ s 98 18 = tq68 98 18 ∧ s 98 13 = tq68 98 13 ∧ s 98 14 = tq68 98 14 ∧ s 98 5 = σ2 98 5 ∧ s 98 6 = σ2 98 6 ∧ s 98 7 = σ2 98 7 ∧ s 98 8 = H79 ∧ s 98 9 = σ2 98 9 ∧ s 101 18 = σ2 101 18 ∧ s 101 25 = σ2 101 25 ∧ s 101 43 = σ2 101 43 ∧ s = h_up tq68 98 8 H79) _ (if_98_8 Itq68 (by omega)) (Ftq68.up rfl) ⟨rfl, rfl, rfl, rfl, rfl, rfl, etq68_6, etq68_7, etq68_8, rfl, etq68_10, etq68_11, etq68_12, etq68_13, rfl⟩ (fun s80 Is80 Fs80 (es80 : s80 98 15 = tq68 98 15 ∧ s80 98 16 = tq68 98 16 ∧ s80 98 17 = tq68 98 17 ∧ s80 98 18 = tq68 98 18 ∧ s80 98 13 = tq68 98 13 ∧ s80 98 14 = tq68 98 14 ∧ s80 98 5 = σ2 98 5 ∧ s80 98 6 = σ2 98 6 ∧ s80 98 7 = σ2 98 7 ∧ s80 98 8 = H79 ∧ s80 98 9 = σ2 98 9 ∧ s80 101 18 = σ2 101 18 ∧ s80 101 25 = σ2 101 25 ∧ s80 101 43 = σ2 101 43 ∧ s80 = h_up tq68 98 8 H79) => ?_)))
      refine h_iload_n (pc' := 28) rfl rfl rfl ?_
      refine h_iret rfl rfl (d_ret hlv67 ?_)
      refine h_iconst (pc' := 159) (x := (Int32.ofInt 1)) rfl rfl rfl ?_
      refine h_iadd (pc' := 160) rfl rfl hq68m ci_1 rfl (by have g0 := h_rgv hq68m; omega) (by have g0 := h_rgv hq68m; omega) (fun z81 hz81 => ?_)
      clear hq68m
      refine h_iast (pc' := 161) rfl rfl rfl rfl hz66 (by omega) (by omega) hz81 (h_fgt (E := fun s => s 98 15 = tq68 98 15 ∧ s 98 16 = tq68 98 16 ∧ s 98 17 = tq68 98 17 ∧ s 98 18 = tq68 98 18 ∧ s 98 13 = tq68 98 13 ∧ s 98 14 = tq68 98 14 ∧ s 98 5 = σ2 98 5 ∧ s 98 6 = σ2 98 6 ∧ s 98 7 = σ2 98 7 ∧ s 98 8 = H79 ∧ s 98 9 = σ2 98 9 ∧ s 101 18 = σ2 101 18 ∧ s 101 25 = σ2 101 25 ∧ s 101 43 = σ2 101 43 ∧ s = h_up s80 101 (29 + (σ2 98 6)) (bq68m + 1)) _ (ip_101_7 Is80 (by omega) (by omega)) (Fs80.up rfl) ⟨es80.1, es80.2.1, es80.2.2.1, es80.2.2.2.1, es80.2.2.2.2.1, es80.2.2.2.2.2.1, es80.2.2.2.2.2.2.1, es80.2.2.2.2.2.2.2.1, es80.2.2.2.2.2.2.2.2.1, es80.2.2.2.2.2.2.2.2.2.1, es80.2.2.2.2.2.2.2.2.2.2.1, h_up_n2 (by omega) es80.2.2.2.2.2.2.2.2.2.2.2.1, h_up_n2 (by omega) es80.2.2.2.2.2.2.2.2.2.2.2.2.1, h_up_n2 (by omega) es80.2.2.2.2.2.2.2.2.2.2.2.2.2.1, rfl⟩ (fun s82 Is82 Fs82 (es82 : s82 98 15 = tq68 98 15 ∧ s82 98 16 = tq68 98 16 ∧ s82 98 17 = tq68 98 17 ∧ s82 98 18 = tq68 98 18 ∧ s82 98 13 = tq68 98 13 ∧ s82 98 14 = tq68 98 14 ∧ s82 98 5 = σ2 98 5 ∧ s82 98 6 = σ2 98 6 ∧ s82 98 7 = σ2 98 7 ∧ s82 98 8 = H79 ∧ s82 98 9 = σ2 98 9 ∧ s82 101 18 = σ2 101 18 ∧ s82 101 25 = σ2 101 25 ∧ s82 101 43 = σ2 101 43 ∧ s82 = h_up s80 101 (29 + (σ2 98 6)) (bq68m + 1)) => ?_))
      clear hz66 hz81
      refine h_aload_n (pc' := 162) rfl rfl rfl ?_
      refine h_dup (pc' := 163) rfl rfl rfl ?_
      refine h_getI (pc' := 166) (v := σ2 98 6) rfl rfl rfl rfl rfl es82.2.2.2.2.2.2.2.1 (fun z83 hz83 => ?_)
      refine h_iconst (pc' := 167) (x := (Int32.ofInt 1)) rfl rfl rfl ?_
      refine h_iadd (pc' := 168) rfl rfl hz83 ci_1 rfl (by omega) (by omega) (fun z84 hz84 => ?_)
      clear hz83
      refine h_put (pc' := 171) rfl rfl rfl rfl rfl rfl hz84 rfl (h_fgt (E := fun s => s 98 15 = tq68 98 15 ∧ s 98 16 = tq68 98 16 ∧ s 98 17 = tq68 98 17 ∧ s 98 18 = tq68 98 18 ∧ s 98 13 = tq68 98 13 ∧ s 98 14 = tq68 98 14 ∧ s 98 5 = σ2 98 5 ∧ s 98 6 = ((σ2 98 6) + 1) ∧ s 98 7 = σ2 98 7 ∧ s 98 8 = H79 ∧ s 98 9 = σ2 98 9 ∧ s 101 18 = σ2 101 18 ∧ s 101 25 = σ2 101 25 ∧ s 101 43 = σ2 101 43 ∧ s = h_up s82 98 6 ((σ2 98 6) + 1)) _ (if_98_6 Is82 (by omega)) (Fs82.up rfl) ⟨es82.1, es82.2.1, es82.2.2.1, es82.2.2.2.1, es82.2.2.2.2.1, es82.2.2.2.2.2.1, es82.2.2.2.2.2.2.1, rfl, es82.2.2.2.2.2.2.2.2.1, es82.2.2.2.2.2.2.2.2.2.1, es82.2.2.2.2.2.2.2.2.2.2.1, es82.2.2.2.2.2.2.2.2.2.2.2.1, es82.2.2.2.2.2.2.2.2.2.2.2.2.1, es82.2.2.2.2.2.2.2.2.2.2.2.2.2.1, rfl⟩ (fun s85 Is85 Fs85 (es85 : s85 98 15 = tq68 98 15 ∧ s85 98 16 = tq68 98 16 ∧ s85 98 17 = tq68 98 17 ∧ s85 98 18 = tq68 98 18 ∧ s85 98 13 = tq68 98 13 ∧ s85 98 14 = tq68 98 14 ∧ s85 98 5 = σ2 98 5 ∧ s85 98 6 = ((σ2 98 6) + 1) ∧ s85 98 7 = σ2 98 7 ∧ s85 98 8 = H79 ∧ s85 98 9 = σ2 98 9 ∧ s85 101 18 = σ2 101 18 ∧ s85 101 25 = σ2 101 25 ∧ s85 101 43 = σ2 101 43 ∧ s85 = h_up s82 98 6 ((σ2 98 6) + 1)) => ?_))
      refine h_goto (pc' := 178) rfl rfl ?_
      refine d_toL (g_inj ns) hlw60 hRq68 (fun lvw86 memw86 hlw86 hRw86 => ?_)
      show h_T g_P (g_Y ns) 61 39 [(0, .ref 63), (1, .int x1)] [.int rq68x] sq68 _
      refine h_goto (pc' := 44) rfl rfl ?_
      refine h_istore_n (pc' := 45) (M := [(2, .int rq68x), (0, .ref 63), (1, .int x1)]) rfl rfl rfl rfl ?_
      refine h_aload_n (pc' := 46) rfl rfl rfl ?_
      refine h_getI (pc' := 49) (v := sq68 63 2) rfl rfl rfl rfl rfl rfl (fun z87 hz87 => ?_)
      have tz87 := tf_63_2 Isq68
      refine h_zne (tg := 61) (pc' := 52) rfl rfl rfl hz87 (fun c88 => absurd c88 (by omega)) (fun c88 => ?_)
      clear hz87
      refine h_aload_n (pc' := 53) rfl rfl rfl ?_
      refine h_getR (pc' := 56) rfl rfl rfl rfl rfl ?_
      refine h_iload_n (pc' := 57) rfl rfl rfl ?_
      refine h_iload_n (pc' := 58) rfl rfl rfl ?_
      refine h_call (sp := false) (pc' := 61) (M := [(0, .ref 66), (1, .int x1), (2, .int rq68x)]) rfl rfl rfl rfl rfl rfl rfl rfl ?_
      refine h_aload_n (pc' := 1) rfl rfl rfl ?_
      refine h_getI (pc' := 4) (v := σ1 66 9) rfl rfl rfl rfl rfl esq68_8 (fun z89 hz89 => ?_)
      have tz89 := tf_66_9 hI1
      refine h_iconst (pc' := 5) (x := (Int32.ofInt 3)) rfl rfl rfl ?_
      refine h_cge (tg := 48) (pc' := 8) rfl rfl rfl hz89 ci_3 (fun c90 => absurd c90 (by omega)) (fun c90 => ?_)
      clear hz89
      refine h_aload_n (pc' := 9) rfl rfl rfl ?_
      refine h_getR (pc' := 12) rfl rfl rfl rfl rfl ?_
      refine h_aload_n (pc' := 13) rfl rfl rfl ?_
      refine h_getI (pc' := 16) (v := σ1 66 9) rfl rfl rfl rfl rfl esq68_8 (fun z91 hz91 => ?_)
      refine h_iload_n (pc' := 17) rfl rfl rfl ?_
      refine h_iast (pc' := 18) rfl rfl rfl rfl hz91 (by omega) (by omega) hx1 (h_fgt (E := fun s => s 64 2 = sq68 64 2 ∧ s 64 4 = sq68 64 4 ∧ s 64 3 = sq68 64 3 ∧ s 64 5 = sq68 64 5 ∧ s 63 2 = sq68 63 2 ∧ s 63 3 = sq68 63 3 ∧ s 64 1 = σ1 64 1 ∧ s 66 8 = σ1 66 8 ∧ s 66 9 = σ1 66 9 ∧ s 66 10 = σ1 66 10 ∧ s 69 2 = σ1 69 2 ∧ s 72 2 = σ1 72 2 ∧ s 63 5 = σ1 63 5 ∧ s = h_up sq68 75 (σ1 66 9) a1) _ (in_75 Isq68 (by omega)) (Fsq68.up rfl) ⟨rfl, rfl, rfl, rfl, rfl, rfl, esq68_6, esq68_7, esq68_8, esq68_9, esq68_10, esq68_11, esq68_12, rfl⟩ (fun s92 Is92 Fs92 (es92 : s92 64 2 = sq68 64 2 ∧ s92 64 4 = sq68 64 4 ∧ s92 64 3 = sq68 64 3 ∧ s92 64 5 = sq68 64 5 ∧ s92 63 2 = sq68 63 2 ∧ s92 63 3 = sq68 63 3 ∧ s92 64 1 = σ1 64 1 ∧ s92 66 8 = σ1 66 8 ∧ s92 66 9 = σ1 66 9 ∧ s92 66 10 = σ1 66 10 ∧ s92 69 2 = σ1 69 2 ∧ s92 72 2 = σ1 72 2 ∧ s92 63 5 = σ1 63 5 ∧ s92 = h_up sq68 75 (σ1 66 9) a1) => ?_))
      clear hz91
      refine h_aload_n (pc' := 19) rfl rfl rfl ?_
      refine h_getR (pc' := 22) rfl rfl rfl rfl rfl ?_
      refine h_aload_n (pc' := 23) rfl rfl rfl ?_
      refine h_getI (pc' := 26) (v := σ1 66 9) rfl rfl rfl rfl rfl es92.2.2.2.2.2.2.2.2.1 (fun z93 hz93 => ?_)
      refine h_iload_n (pc' := 27) rfl rfl rfl ?_
      refine h_iast (pc' := 28) rfl rfl rfl rfl hz93 (by omega) (by omega) hq68x (h_fgt (E := fun s => s 64 2 = sq68 64 2 ∧ s 64 4 = sq68 64 4 ∧ s 64 3 = sq68 64 3 ∧ s 64 5 = sq68 64 5 ∧ s 63 2 = sq68 63 2 ∧ s 63 3 = sq68 63 3 ∧ s 64 1 = σ1 64 1 ∧ s 66 8 = σ1 66 8 ∧ s 66 9 = σ1 66 9 ∧ s 66 10 = σ1 66 10 ∧ s 69 2 = σ1 69 2 ∧ s 72 2 = σ1 72 2 ∧ s 63 5 = σ1 63 5 ∧ s = h_up s92 76 (σ1 66 9) bq68x) _ (in_76 Is92 (by omega)) (Fs92.up rfl) ⟨es92.1, es92.2.1, es92.2.2.1, es92.2.2.2.1, es92.2.2.2.2.1, es92.2.2.2.2.2.1, es92.2.2.2.2.2.2.1, es92.2.2.2.2.2.2.2.1, es92.2.2.2.2.2.2.2.2.1, es92.2.2.2.2.2.2.2.2.2.1, es92.2.2.2.2.2.2.2.2.2.2.1, es92.2.2.2.2.2.2.2.2.2.2.2.1, es92.2.2.2.2.2.2.2.2.2.2.2.2.1, rfl⟩ (fun s94 Is94 Fs94 (es94 : s94 64 2 = sq68 64 2 ∧ s94 64 4 = sq68 64 4 ∧ s94 64 3 = sq68 64 3 ∧ s94 64 5 = sq68 64 5 ∧ s94 63 2 = sq68 63 2 ∧ s94 63 3 = sq68 63 3 ∧ s94 64 1 = σ1 64 1 ∧ s94 66 8 = σ1 66 8 ∧ s94 66 9 = σ1 66 9 ∧ s94 66 10 = σ1 66 10 ∧ s94 69 2 = σ1 69 2 ∧ s94 72 2 = σ1 72 2 ∧ s94 63 5 = σ1 63 5 ∧ s94 = h_up s92 76 (σ1 66 9) bq68x) => ?_))
      clear hz93
      refine h_aload_n (pc' := 29) rfl rfl rfl ?_
      refine h_getR (pc' := 32) rfl rfl rfl rfl rfl ?_
      refine h_aload_n (pc' := 33) rfl rfl rfl ?_
      refine h_getI (pc' := 36) (v := σ1 66 9) rfl rfl rfl rfl rfl es94.2.2.2.2.2.2.2.2.1 (fun z95 hz95 => ?_)
      refine h_iconst (pc' := 37) (x := (Int32.ofInt 0)) rfl rfl rfl ?_
      refine h_iast (pc' := 38) rfl rfl rfl rfl hz95 (by omega) (by omega) ci_0 (h_fgt (E := fun s => s 64 2 = sq68 64 2 ∧ s 64 4 = sq68 64 4 ∧ s 64 3 = sq68 64 3 ∧ s 64 5 = sq68 64 5 ∧ s 63 2 = sq68 63 2 ∧ s 63 3 = sq68 63 3 ∧ s 64 1 = σ1 64 1 ∧ s 66 8 = σ1 66 8 ∧ s 66 9 = σ1 66 9 ∧ s 66 10 = σ1 66 10 ∧ s 69 2 = σ1 69 2 ∧ s 72 2 = σ1 72 2 ∧ s 63 5 = σ1 63 5 ∧ s = h_up s94 77 (σ1 66 9) 0) _ (in_77 Is94 (by omega)) (Fs94.up rfl) ⟨es94.1, es94.2.1, es94.2.2.1, es94.2.2.2.1, es94.2.2.2.2.1, es94.2.2.2.2.2.1, es94.2.2.2.2.2.2.1, es94.2.2.2.2.2.2.2.1, es94.2.2.2.2.2.2.2.2.1, es94.2.2.2.2.2.2.2.2.2.1, es94.2.2.2.2.2.2.2.2.2.2.1, es94.2.2.2.2.2.2.2.2.2.2.2.1, es94.2.2.2.2.2.2.2.2.2.2.2.2.1, rfl⟩ (fun s96 Is96 Fs96 (es96 : s96 64 2 = sq68 64 2 ∧ s96 64 4 = sq68 64 4 ∧ s96 64 3 = sq68 64 3 ∧ s96 64 5 = sq68 64 5 ∧ s96 63 2 = sq68 63 2 ∧ s96 63 3 = sq68 63 3 ∧ s96 64 1 = σ1 64 1 ∧ s96 66 8 = σ1 66 8 ∧ s96 66 9 = σ1 66 9 ∧ s96 66 10 = σ1 66 10 ∧ s96 69 2 = σ1 69 2 ∧ s96 72 2 = σ1 72 2 ∧ s96 63 5 = σ1 63 5 ∧ s96 = h_up s94 77 (σ1 66 9) 0) => ?_))
      clear hz95
      refine h_aload_n (pc' := 39) rfl rfl rfl ?_
      refine h_dup (pc' := 40) rfl rfl rfl ?_
      refine h_getI (pc' := 43) (v := σ1 66 9) rfl rfl rfl rfl rfl es96.2.2.2.2.2.2.2.2.1 (fun z97 hz97 => ?_)
      refine h_iconst (pc' := 44) (x := (Int32.ofInt 1)) rfl rfl rfl ?_
      refine h_iadd (pc' := 45) rfl rfl hz97 ci_1 rfl (by omega) (by omega) (fun z98 hz98 => ?_)
      clear hz97
      refine h_put (pc' := 48) rfl rfl rfl rfl rfl rfl hz98 rfl (h_fgt (E := fun s => s 64 2 = sq68 64 2 ∧ s 64 4 = sq68 64 4 ∧ s 64 3 = sq68 64 3 ∧ s 64 5 = sq68 64 5 ∧ s 63 2 = sq68 63 2 ∧ s 63 3 = sq68 63 3 ∧ s 64 1 = σ1 64 1 ∧ s 66 8 = σ1 66 8 ∧ s 66 9 = ((σ1 66 9) + 1) ∧ s 66 10 = σ1 66 10 ∧ s 69 2 = σ1 69 2 ∧ s 72 2 = σ1 72 2 ∧ s 63 5 = σ1 63 5 ∧ s = h_up s96 66 9 ((σ1 66 9) + 1)) _ (if_66_9 Is96 (by omega)) (Fs96.up rfl) ⟨es96.1, es96.2.1, es96.2.2.1, es96.2.2.2.1, es96.2.2.2.2.1, es96.2.2.2.2.2.1, es96.2.2.2.2.2.2.1, es96.2.2.2.2.2.2.2.1, rfl, es96.2.2.2.2.2.2.2.2.2.1, es96.2.2.2.2.2.2.2.2.2.2.1, es96.2.2.2.2.2.2.2.2.2.2.2.1, es96.2.2.2.2.2.2.2.2.2.2.2.2.1, rfl⟩ (fun s99 Is99 Fs99 (es99 : s99 64 2 = sq68 64 2 ∧ s99 64 4 = sq68 64 4 ∧ s99 64 3 = sq68 64 3 ∧ s99 64 5 = sq68 64 5 ∧ s99 63 2 = sq68 63 2 ∧ s99 63 3 = sq68 63 3 ∧ s99 64 1 = σ1 64 1 ∧ s99 66 8 = σ1 66 8 ∧ s99 66 9 = ((σ1 66 9) + 1) ∧ s99 66 10 = σ1 66 10 ∧ s99 69 2 = σ1 69 2 ∧ s99 72 2 = σ1 72 2 ∧ s99 63 5 = σ1 63 5 ∧ s99 = h_up s96 66 9 ((σ1 66 9) + 1)) => ?_))
      refine h_vret rfl rfl (h_Kn ?_)
      exact h_wk [(0, .ref 63)] ⟨rfl, trivial⟩ (kx0 _ _ Is99 Is85 Fs99 Fs85 (by omega) (by omega) (by omega) (by omega) (by omega) (fun _ => d_mk (es99.2.2.2.2.2.2.2.1) (es99.2.2.2.2.2.2.2.2.1) (es99.2.2.2.2.2.2.2.2.2.1) (es99.2.2.2.2.2.2.2.2.2.2.1) (es99.2.2.2.2.2.2.2.2.2.2.2.1) (es99.2.2.2.2.2.2.2.2.2.2.2.2.1) (fun j => (h_upo es99.2.2.2.2.2.2.2.2.2.2.2.2.2 rfl j).trans ((h_upo es96.2.2.2.2.2.2.2.2.2.2.2.2.2 rfl j).trans ((h_upo es94.2.2.2.2.2.2.2.2.2.2.2.2.2 rfl j).trans ((h_upo es92.2.2.2.2.2.2.2.2.2.2.2.2.2 rfl j).trans ((Gsq68 67 j rfl)))))) (fun j => (h_upo es99.2.2.2.2.2.2.2.2.2.2.2.2.2 rfl j).trans ((h_upo es96.2.2.2.2.2.2.2.2.2.2.2.2.2 rfl j).trans ((h_upo es94.2.2.2.2.2.2.2.2.2.2.2.2.2 rfl j).trans ((h_upo es92.2.2.2.2.2.2.2.2.2.2.2.2.2 rfl j).trans ((Gsq68 68 j rfl)))))) (fun j => (h_upo es99.2.2.2.2.2.2.2.2.2.2.2.2.2 rfl j).trans ((h_upo es96.2.2.2.2.2.2.2.2.2.2.2.2.2 rfl j).trans ((h_upo es94.2.2.2.2.2.2.2.2.2.2.2.2.2 rfl j).trans ((h_upo es92.2.2.2.2.2.2.2.2.2.2.2.2.2 rfl j).trans ((Gsq68 70 j rfl)))))) (fun j => (h_upo es99.2.2.2.2.2.2.2.2.2.2.2.2.2 rfl j).trans ((h_upo es96.2.2.2.2.2.2.2.2.2.2.2.2.2 rfl j).trans ((h_upo es94.2.2.2.2.2.2.2.2.2.2.2.2.2 rfl j).trans ((h_upo es92.2.2.2.2.2.2.2.2.2.2.2.2.2 rfl j).trans ((Gsq68 71 j rfl)))))) (fun j => (h_upo es99.2.2.2.2.2.2.2.2.2.2.2.2.2 rfl j).trans ((h_upo es96.2.2.2.2.2.2.2.2.2.2.2.2.2 rfl j).trans ((h_upo es94.2.2.2.2.2.2.2.2.2.2.2.2.2 rfl j).trans ((h_upo es92.2.2.2.2.2.2.2.2.2.2.2.2.2 rfl j).trans ((Gsq68 73 j rfl)))))) (fun j => (h_upo es99.2.2.2.2.2.2.2.2.2.2.2.2.2 rfl j).trans ((h_upo es96.2.2.2.2.2.2.2.2.2.2.2.2.2 rfl j).trans ((h_upo es94.2.2.2.2.2.2.2.2.2.2.2.2.2 rfl j).trans ((h_upo es92.2.2.2.2.2.2.2.2.2.2.2.2.2 rfl j).trans ((Gsq68 74 j rfl)))))) (fun j => (h_upo es99.2.2.2.2.2.2.2.2.2.2.2.2.2 rfl j).trans ((h_upo es96.2.2.2.2.2.2.2.2.2.2.2.2.2 rfl j).trans ((h_upo es94.2.2.2.2.2.2.2.2.2.2.2.2.2 rfl j).trans ((h_upi es92.2.2.2.2.2.2.2.2.2.2.2.2.2 j).trans (congrArg (fun z => if j = (σ1 66 9) then a1 else z) ((Gsq68 75 j rfl))))))) (fun j => (h_upo es99.2.2.2.2.2.2.2.2.2.2.2.2.2 rfl j).trans ((h_upo es96.2.2.2.2.2.2.2.2.2.2.2.2.2 rfl j).trans ((h_upi es94.2.2.2.2.2.2.2.2.2.2.2.2.2 j).trans (congrArg (fun z => if j = (σ1 66 9) then bq68x else z) ((h_upo es92.2.2.2.2.2.2.2.2.2.2.2.2.2 rfl j).trans ((Gsq68 76 j rfl))))))) (fun j => (h_upo es99.2.2.2.2.2.2.2.2.2.2.2.2.2 rfl j).trans ((h_upi es96.2.2.2.2.2.2.2.2.2.2.2.2.2 j).trans (congrArg (fun z => if j = (σ1 66 9) then 0 else z) ((h_upo es94.2.2.2.2.2.2.2.2.2.2.2.2.2 rfl j).trans ((h_upo es92.2.2.2.2.2.2.2.2.2.2.2.2.2 rfl j).trans ((Gsq68 77 j rfl))))))) (fun j => (h_upo es99.2.2.2.2.2.2.2.2.2.2.2.2.2 rfl j).trans ((h_upo es96.2.2.2.2.2.2.2.2.2.2.2.2.2 rfl j).trans ((h_upo es94.2.2.2.2.2.2.2.2.2.2.2.2.2 rfl j).trans ((h_upo es92.2.2.2.2.2.2.2.2.2.2.2.2.2 rfl j).trans ((Gsq68 78 j rfl)))))) (es85.2.2.2.2.2.2.1) (es85.2.2.2.2.2.2.2.1) (es85.2.2.2.2.2.2.2.2.1) (es85.2.2.2.2.2.2.2.2.2.1) (es85.2.2.2.2.2.2.2.2.2.2.1) (fun j => (h_upo es85.2.2.2.2.2.2.2.2.2.2.2.2.2.2 rfl j).trans ((h_upi es82.2.2.2.2.2.2.2.2.2.2.2.2.2.2 j).trans (congrArg (fun z => if j = (29 + (σ2 98 6)) then (bq68m + 1) else z) ((h_upo es80.2.2.2.2.2.2.2.2.2.2.2.2.2.2 rfl j).trans ((Gtq68 101 j rfl)))))) (r_gatB pr10 (by omega) (by omega) (by omega) (by omega) (by omega) (by omega) (by omega) (by omega) (by omega) (by omega) (by omega) (by omega) (by omega))) (pcq68.elim (fun pcq68 => (Or.inr (Or.inl ⟨by omega, by omega, by omega, by omega, by omega, by omega⟩))) (fun pcq68 => (pcq68.elim (fun pcq68 => (Or.inr (Or.inr (Or.inl ⟨by omega, by omega, by omega, by omega, by omega, by omega⟩)))) (fun pcq68 => (pcq68.elim (fun pcq68 => (Or.inr (Or.inr (Or.inr (Or.inl ⟨by omega, by omega, by omega, by omega, by omega, by omega, by omega, by omega, by omega⟩))))) (fun pcq68 => (Or.inr (Or.inr (Or.inr (Or.inr ⟨by omega, by omega, by omega, by omega, by omega, by omega⟩)))))))))) _ _ (h_al_ok ⟨rfl, trivial⟩ hlw86) hRw86)
  · show h_T g_P (g_Y ns) 61 27 [(0, .ref 63), (1, .int x1)] [] σ1 _
    refine h_aload_n (pc' := 28) rfl rfl rfl ?_
    refine h_call (sp := false) (pc' := 31) (M := [(0, .ref 63)]) rfl rfl rfl rfl rfl rfl rfl rfl ?_
    refine h_aload_n (pc' := 1) rfl rfl rfl ?_
    refine h_getI (pc' := 4) (v := σ1 63 2) rfl rfl rfl rfl rfl rfl (fun z100 hz100 => ?_)
    have tz100 := tf_63_2 hI1
    refine h_zne (tg := 22) (pc' := 7) rfl rfl rfl hz100 (fun c101 => absurd c101 (by omega)) (fun c101 => ?_)
    clear hz100
    refine h_aload_n (pc' := 8) rfl rfl rfl ?_
    refine h_getR (pc' := 11) rfl rfl rfl rfl rfl ?_
    refine h_getI (pc' := 14) (v := σ1 64 3) rfl rfl rfl rfl rfl rfl (fun z102 hz102 => ?_)
    have tz102 := tf_64_3 hI1
    refine h_iconst (pc' := 15) (x := (Int32.ofInt 2)) rfl rfl rfl ?_
    refine h_cne (tg := 22) (pc' := 18) rfl rfl rfl hz102 ci_2 (fun c103 => ?_) (fun c103 => absurd c103 (by omega))
    clear hz102
    refine h_iconst (pc' := 23) (x := (Int32.ofInt 0)) rfl rfl rfl ?_
    refine h_zret rfl rfl ci_0 (by omega) (h_Kv ?_)
    refine h_zeq (tg := 42) (pc' := 34) rfl rfl rfl ci_0 (fun c104 => ?_) (fun c104 => absurd c104 (by omega))
    refine h_bipush (pc' := 44) (x := (Int32.ofInt (-4))) rfl rfl cb_m4 ?_
    refine h_istore_n (pc' := 45) (M := [(2, .int (Int32.ofInt (-4))), (0, .ref 63), (1, .int x1)]) rfl rfl rfl rfl ?_
    refine h_aload_n (pc' := 46) rfl rfl rfl ?_
    refine h_getI (pc' := 49) (v := σ1 63 2) rfl rfl rfl rfl rfl rfl (fun z105 hz105 => ?_)
    refine h_zne (tg := 61) (pc' := 52) rfl rfl rfl hz105 (fun c106 => absurd c106 (by omega)) (fun c106 => ?_)
    clear hz105
    refine h_aload_n (pc' := 53) rfl rfl rfl ?_
    refine h_getR (pc' := 56) rfl rfl rfl rfl rfl ?_
    refine h_iload_n (pc' := 57) rfl rfl rfl ?_
    refine h_iload_n (pc' := 58) rfl rfl rfl ?_
    refine h_call (sp := false) (pc' := 61) (M := [(0, .ref 66), (1, .int x1), (2, .int (Int32.ofInt (-4)))]) rfl rfl rfl rfl rfl rfl rfl rfl ?_
    refine h_aload_n (pc' := 1) rfl rfl rfl ?_
    refine h_getI (pc' := 4) (v := σ1 66 9) rfl rfl rfl rfl rfl rfl (fun z107 hz107 => ?_)
    have tz107 := tf_66_9 hI1
    refine h_iconst (pc' := 5) (x := (Int32.ofInt 3)) rfl rfl rfl ?_
    refine h_cge (tg := 48) (pc' := 8) rfl rfl rfl hz107 ci_3 (fun c108 => absurd c108 (by omega)) (fun c108 => ?_)
    clear hz107
    refine h_aload_n (pc' := 9) rfl rfl rfl ?_
    refine h_getR (pc' := 12) rfl rfl rfl rfl rfl ?_
    refine h_aload_n (pc' := 13) rfl rfl rfl ?_
    refine h_getI (pc' := 16) (v := σ1 66 9) rfl rfl rfl rfl rfl rfl (fun z109 hz109 => ?_)
    refine h_iload_n (pc' := 17) rfl rfl rfl ?_
    refine h_iast (pc' := 18) rfl rfl rfl rfl hz109 (by omega) (by omega) hx1 (h_fgt (E := fun s => s 64 2 = σ1 64 2 ∧ s 64 4 = σ1 64 4 ∧ s 64 3 = σ1 64 3 ∧ s 64 5 = σ1 64 5 ∧ s 63 2 = σ1 63 2 ∧ s 63 3 = σ1 63 3 ∧ s 64 1 = σ1 64 1 ∧ s 66 8 = σ1 66 8 ∧ s 66 9 = σ1 66 9 ∧ s 66 10 = σ1 66 10 ∧ s 69 2 = σ1 69 2 ∧ s 72 2 = σ1 72 2 ∧ s 63 5 = σ1 63 5 ∧ s = h_up σ1 75 (σ1 66 9) a1) _ (in_75 hI1 (by omega)) (F1.up rfl) ⟨rfl, rfl, rfl, rfl, rfl, rfl, rfl, rfl, rfl, rfl, rfl, rfl, rfl, rfl⟩ (fun s110 Is110 Fs110 (es110 : s110 64 2 = σ1 64 2 ∧ s110 64 4 = σ1 64 4 ∧ s110 64 3 = σ1 64 3 ∧ s110 64 5 = σ1 64 5 ∧ s110 63 2 = σ1 63 2 ∧ s110 63 3 = σ1 63 3 ∧ s110 64 1 = σ1 64 1 ∧ s110 66 8 = σ1 66 8 ∧ s110 66 9 = σ1 66 9 ∧ s110 66 10 = σ1 66 10 ∧ s110 69 2 = σ1 69 2 ∧ s110 72 2 = σ1 72 2 ∧ s110 63 5 = σ1 63 5 ∧ s110 = h_up σ1 75 (σ1 66 9) a1) => ?_))
    clear hz109
    refine h_aload_n (pc' := 19) rfl rfl rfl ?_
    refine h_getR (pc' := 22) rfl rfl rfl rfl rfl ?_
    refine h_aload_n (pc' := 23) rfl rfl rfl ?_
    refine h_getI (pc' := 26) (v := σ1 66 9) rfl rfl rfl rfl rfl es110.2.2.2.2.2.2.2.2.1 (fun z111 hz111 => ?_)
    refine h_iload_n (pc' := 27) rfl rfl rfl ?_
    refine h_iast (pc' := 28) rfl rfl rfl rfl hz111 (by omega) (by omega) ci_m4 (h_fgt (E := fun s => s 64 2 = σ1 64 2 ∧ s 64 4 = σ1 64 4 ∧ s 64 3 = σ1 64 3 ∧ s 64 5 = σ1 64 5 ∧ s 63 2 = σ1 63 2 ∧ s 63 3 = σ1 63 3 ∧ s 64 1 = σ1 64 1 ∧ s 66 8 = σ1 66 8 ∧ s 66 9 = σ1 66 9 ∧ s 66 10 = σ1 66 10 ∧ s 69 2 = σ1 69 2 ∧ s 72 2 = σ1 72 2 ∧ s 63 5 = σ1 63 5 ∧ s = h_up s110 76 (σ1 66 9) (-4)) _ (in_76 Is110 (by omega)) (Fs110.up rfl) ⟨es110.1, es110.2.1, es110.2.2.1, es110.2.2.2.1, es110.2.2.2.2.1, es110.2.2.2.2.2.1, es110.2.2.2.2.2.2.1, es110.2.2.2.2.2.2.2.1, es110.2.2.2.2.2.2.2.2.1, es110.2.2.2.2.2.2.2.2.2.1, es110.2.2.2.2.2.2.2.2.2.2.1, es110.2.2.2.2.2.2.2.2.2.2.2.1, es110.2.2.2.2.2.2.2.2.2.2.2.2.1, rfl⟩ (fun s112 Is112 Fs112 (es112 : s112 64 2 = σ1 64 2 ∧ s112 64 4 = σ1 64 4 ∧ s112 64 3 = σ1 64 3 ∧ s112 64 5 = σ1 64 5 ∧ s112 63 2 = σ1 63 2 ∧ s112 63 3 = σ1 63 3 ∧ s112 64 1 = σ1 64 1 ∧ s112 66 8 = σ1 66 8 ∧ s112 66 9 = σ1 66 9 ∧ s112 66 10 = σ1 66 10 ∧ s112 69 2 = σ1 69 2 ∧ s112 72 2 = σ1 72 2 ∧ s112 63 5 = σ1 63 5 ∧ s112 = h_up s110 76 (σ1 66 9) (-4)) => ?_))
    clear hz111
    refine h_aload_n (pc' := 29) rfl rfl rfl ?_
    refine h_getR (pc' := 32) rfl rfl rfl rfl rfl ?_
    refine h_aload_n (pc' := 33) rfl rfl rfl ?_
    refine h_getI (pc' := 36) (v := σ1 66 9) rfl rfl rfl rfl rfl es112.2.2.2.2.2.2.2.2.1 (fun z113 hz113 => ?_)
    refine h_iconst (pc' := 37) (x := (Int32.ofInt 0)) rfl rfl rfl ?_
    refine h_iast (pc' := 38) rfl rfl rfl rfl hz113 (by omega) (by omega) ci_0 (h_fgt (E := fun s => s 64 2 = σ1 64 2 ∧ s 64 4 = σ1 64 4 ∧ s 64 3 = σ1 64 3 ∧ s 64 5 = σ1 64 5 ∧ s 63 2 = σ1 63 2 ∧ s 63 3 = σ1 63 3 ∧ s 64 1 = σ1 64 1 ∧ s 66 8 = σ1 66 8 ∧ s 66 9 = σ1 66 9 ∧ s 66 10 = σ1 66 10 ∧ s 69 2 = σ1 69 2 ∧ s 72 2 = σ1 72 2 ∧ s 63 5 = σ1 63 5 ∧ s = h_up s112 77 (σ1 66 9) 0) _ (in_77 Is112 (by omega)) (Fs112.up rfl) ⟨es112.1, es112.2.1, es112.2.2.1, es112.2.2.2.1, es112.2.2.2.2.1, es112.2.2.2.2.2.1, es112.2.2.2.2.2.2.1, es112.2.2.2.2.2.2.2.1, es112.2.2.2.2.2.2.2.2.1, es112.2.2.2.2.2.2.2.2.2.1, es112.2.2.2.2.2.2.2.2.2.2.1, es112.2.2.2.2.2.2.2.2.2.2.2.1, es112.2.2.2.2.2.2.2.2.2.2.2.2.1, rfl⟩ (fun s114 Is114 Fs114 (es114 : s114 64 2 = σ1 64 2 ∧ s114 64 4 = σ1 64 4 ∧ s114 64 3 = σ1 64 3 ∧ s114 64 5 = σ1 64 5 ∧ s114 63 2 = σ1 63 2 ∧ s114 63 3 = σ1 63 3 ∧ s114 64 1 = σ1 64 1 ∧ s114 66 8 = σ1 66 8 ∧ s114 66 9 = σ1 66 9 ∧ s114 66 10 = σ1 66 10 ∧ s114 69 2 = σ1 69 2 ∧ s114 72 2 = σ1 72 2 ∧ s114 63 5 = σ1 63 5 ∧ s114 = h_up s112 77 (σ1 66 9) 0) => ?_))
    clear hz113
    refine h_aload_n (pc' := 39) rfl rfl rfl ?_
    refine h_dup (pc' := 40) rfl rfl rfl ?_
    refine h_getI (pc' := 43) (v := σ1 66 9) rfl rfl rfl rfl rfl es114.2.2.2.2.2.2.2.2.1 (fun z115 hz115 => ?_)
    refine h_iconst (pc' := 44) (x := (Int32.ofInt 1)) rfl rfl rfl ?_
    refine h_iadd (pc' := 45) rfl rfl hz115 ci_1 rfl (by omega) (by omega) (fun z116 hz116 => ?_)
    clear hz115
    refine h_put (pc' := 48) rfl rfl rfl rfl rfl rfl hz116 rfl (h_fgt (E := fun s => s 64 2 = σ1 64 2 ∧ s 64 4 = σ1 64 4 ∧ s 64 3 = σ1 64 3 ∧ s 64 5 = σ1 64 5 ∧ s 63 2 = σ1 63 2 ∧ s 63 3 = σ1 63 3 ∧ s 64 1 = σ1 64 1 ∧ s 66 8 = σ1 66 8 ∧ s 66 9 = ((σ1 66 9) + 1) ∧ s 66 10 = σ1 66 10 ∧ s 69 2 = σ1 69 2 ∧ s 72 2 = σ1 72 2 ∧ s 63 5 = σ1 63 5 ∧ s = h_up s114 66 9 ((σ1 66 9) + 1)) _ (if_66_9 Is114 (by omega)) (Fs114.up rfl) ⟨es114.1, es114.2.1, es114.2.2.1, es114.2.2.2.1, es114.2.2.2.2.1, es114.2.2.2.2.2.1, es114.2.2.2.2.2.2.1, es114.2.2.2.2.2.2.2.1, rfl, es114.2.2.2.2.2.2.2.2.2.1, es114.2.2.2.2.2.2.2.2.2.2.1, es114.2.2.2.2.2.2.2.2.2.2.2.1, es114.2.2.2.2.2.2.2.2.2.2.2.2.1, rfl⟩ (fun s117 Is117 Fs117 (es117 : s117 64 2 = σ1 64 2 ∧ s117 64 4 = σ1 64 4 ∧ s117 64 3 = σ1 64 3 ∧ s117 64 5 = σ1 64 5 ∧ s117 63 2 = σ1 63 2 ∧ s117 63 3 = σ1 63 3 ∧ s117 64 1 = σ1 64 1 ∧ s117 66 8 = σ1 66 8 ∧ s117 66 9 = ((σ1 66 9) + 1) ∧ s117 66 10 = σ1 66 10 ∧ s117 69 2 = σ1 69 2 ∧ s117 72 2 = σ1 72 2 ∧ s117 63 5 = σ1 63 5 ∧ s117 = h_up s114 66 9 ((σ1 66 9) + 1)) => ?_))
    refine h_vret rfl rfl (h_Kn ?_)
    refine d_toM (g_inj ns) hl2 hR2 (fun lvw118 memw118 hlw118 hRw118 => ?_)
    show h_T g_P (g_Y ns) 153 128 [(0, .ref 98)] [] σ2 _
    refine h_aload_n (pc' := 129) rfl rfl rfl ?_
    refine h_getI (pc' := 132) (v := σ2 98 13) rfl rfl rfl rfl rfl rfl (fun z119 hz119 => ?_)
    have tz119 := tf_98_13 hI2
    refine h_zne (tg := 161) (pc' := 135) rfl rfl rfl hz119 (fun c120 => absurd c120 (by omega)) (fun c120 => ?_)
    clear hz119
    refine h_aload_n (pc' := 136) rfl rfl rfl ?_
    refine h_getI (pc' := 139) (v := σ2 98 17) rfl rfl rfl rfl rfl rfl (fun z121 hz121 => ?_)
    have tz121 := tf_98_17 hI2
    refine h_iconst (pc' := 140) (x := (Int32.ofInt 2)) rfl rfl rfl ?_
    refine h_cne (tg := 161) (pc' := 143) rfl rfl rfl hz121 ci_2 (fun c122 => ?_) (fun c122 => absurd c122 (by omega))
    clear hz121
    refine h_aload_n (pc' := 162) rfl rfl rfl ?_
    refine h_dup (pc' := 163) rfl rfl rfl ?_
    refine h_getI (pc' := 166) (v := σ2 98 6) rfl rfl rfl rfl rfl rfl (fun z123 hz123 => ?_)
    have tz123 := tf_98_6 hI2
    refine h_iconst (pc' := 167) (x := (Int32.ofInt 1)) rfl rfl rfl ?_
    refine h_iadd (pc' := 168) rfl rfl hz123 ci_1 rfl (by omega) (by omega) (fun z124 hz124 => ?_)
    clear hz123
    refine h_put (pc' := 171) rfl rfl rfl rfl rfl rfl hz124 rfl (h_fgt (E := fun s => s 98 15 = σ2 98 15 ∧ s 98 16 = σ2 98 16 ∧ s 98 17 = σ2 98 17 ∧ s 98 18 = σ2 98 18 ∧ s 98 13 = σ2 98 13 ∧ s 98 14 = σ2 98 14 ∧ s 98 5 = σ2 98 5 ∧ s 98 6 = ((σ2 98 6) + 1) ∧ s 98 7 = σ2 98 7 ∧ s 98 8 = σ2 98 8 ∧ s 98 9 = σ2 98 9 ∧ s 101 18 = σ2 101 18 ∧ s 101 25 = σ2 101 25 ∧ s 101 43 = σ2 101 43 ∧ s = h_up σ2 98 6 ((σ2 98 6) + 1)) _ (if_98_6 hI2 (by omega)) (F2.up rfl) ⟨rfl, rfl, rfl, rfl, rfl, rfl, rfl, rfl, rfl, rfl, rfl, rfl, rfl, rfl, rfl⟩ (fun s125 Is125 Fs125 (es125 : s125 98 15 = σ2 98 15 ∧ s125 98 16 = σ2 98 16 ∧ s125 98 17 = σ2 98 17 ∧ s125 98 18 = σ2 98 18 ∧ s125 98 13 = σ2 98 13 ∧ s125 98 14 = σ2 98 14 ∧ s125 98 5 = σ2 98 5 ∧ s125 98 6 = ((σ2 98 6) + 1) ∧ s125 98 7 = σ2 98 7 ∧ s125 98 8 = σ2 98 8 ∧ s125 98 9 = σ2 98 9 ∧ s125 101 18 = σ2 101 18 ∧ s125 101 25 = σ2 101 25 ∧ s125 101 43 = σ2 101 43 ∧ s125 = h_up σ2 98 6 ((σ2 98 6) + 1)) => ?_))
    refine h_goto (pc' := 178) rfl rfl ?_
    refine d_toL (g_inj ns) hlw118 hRw118 (fun lvw126 memw126 hlw126 hRw126 => ?_)
    show h_T g_P (g_Y ns) 61 61 [(2, .int (Int32.ofInt (-4))), (0, .ref 63), (1, .int x1)] [] s117 _
    exact h_wk [(0, .ref 63)] ⟨rfl, trivial⟩ (kx0 _ _ Is117 Is125 Fs117 Fs125 (by omega) (by omega) (by omega) (by omega) (by omega) (fun _ => d_mk (es117.2.2.2.2.2.2.2.1) (es117.2.2.2.2.2.2.2.2.1) (es117.2.2.2.2.2.2.2.2.2.1) (es117.2.2.2.2.2.2.2.2.2.2.1) (es117.2.2.2.2.2.2.2.2.2.2.2.1) (es117.2.2.2.2.2.2.2.2.2.2.2.2.1) (fun j => (h_upo es117.2.2.2.2.2.2.2.2.2.2.2.2.2 rfl j).trans ((h_upo es114.2.2.2.2.2.2.2.2.2.2.2.2.2 rfl j).trans ((h_upo es112.2.2.2.2.2.2.2.2.2.2.2.2.2 rfl j).trans ((h_upo es110.2.2.2.2.2.2.2.2.2.2.2.2.2 rfl j))))) (fun j => (h_upo es117.2.2.2.2.2.2.2.2.2.2.2.2.2 rfl j).trans ((h_upo es114.2.2.2.2.2.2.2.2.2.2.2.2.2 rfl j).trans ((h_upo es112.2.2.2.2.2.2.2.2.2.2.2.2.2 rfl j).trans ((h_upo es110.2.2.2.2.2.2.2.2.2.2.2.2.2 rfl j))))) (fun j => (h_upo es117.2.2.2.2.2.2.2.2.2.2.2.2.2 rfl j).trans ((h_upo es114.2.2.2.2.2.2.2.2.2.2.2.2.2 rfl j).trans ((h_upo es112.2.2.2.2.2.2.2.2.2.2.2.2.2 rfl j).trans ((h_upo es110.2.2.2.2.2.2.2.2.2.2.2.2.2 rfl j))))) (fun j => (h_upo es117.2.2.2.2.2.2.2.2.2.2.2.2.2 rfl j).trans ((h_upo es114.2.2.2.2.2.2.2.2.2.2.2.2.2 rfl j).trans ((h_upo es112.2.2.2.2.2.2.2.2.2.2.2.2.2 rfl j).trans ((h_upo es110.2.2.2.2.2.2.2.2.2.2.2.2.2 rfl j))))) (fun j => (h_upo es117.2.2.2.2.2.2.2.2.2.2.2.2.2 rfl j).trans ((h_upo es114.2.2.2.2.2.2.2.2.2.2.2.2.2 rfl j).trans ((h_upo es112.2.2.2.2.2.2.2.2.2.2.2.2.2 rfl j).trans ((h_upo es110.2.2.2.2.2.2.2.2.2.2.2.2.2 rfl j))))) (fun j => (h_upo es117.2.2.2.2.2.2.2.2.2.2.2.2.2 rfl j).trans ((h_upo es114.2.2.2.2.2.2.2.2.2.2.2.2.2 rfl j).trans ((h_upo es112.2.2.2.2.2.2.2.2.2.2.2.2.2 rfl j).trans ((h_upo es110.2.2.2.2.2.2.2.2.2.2.2.2.2 rfl j))))) (fun j => (h_upo es117.2.2.2.2.2.2.2.2.2.2.2.2.2 rfl j).trans ((h_upo es114.2.2.2.2.2.2.2.2.2.2.2.2.2 rfl j).trans ((h_upo es112.2.2.2.2.2.2.2.2.2.2.2.2.2 rfl j).trans ((h_upi es110.2.2.2.2.2.2.2.2.2.2.2.2.2 j))))) (fun j => (h_upo es117.2.2.2.2.2.2.2.2.2.2.2.2.2 rfl j).trans ((h_upo es114.2.2.2.2.2.2.2.2.2.2.2.2.2 rfl j).trans ((h_upi es112.2.2.2.2.2.2.2.2.2.2.2.2.2 j).trans (congrArg (fun z => if j = (σ1 66 9) then (-4) else z) ((h_upo es110.2.2.2.2.2.2.2.2.2.2.2.2.2 rfl j)))))) (fun j => (h_upo es117.2.2.2.2.2.2.2.2.2.2.2.2.2 rfl j).trans ((h_upi es114.2.2.2.2.2.2.2.2.2.2.2.2.2 j).trans (congrArg (fun z => if j = (σ1 66 9) then 0 else z) ((h_upo es112.2.2.2.2.2.2.2.2.2.2.2.2.2 rfl j).trans ((h_upo es110.2.2.2.2.2.2.2.2.2.2.2.2.2 rfl j)))))) (fun j => (h_upo es117.2.2.2.2.2.2.2.2.2.2.2.2.2 rfl j).trans ((h_upo es114.2.2.2.2.2.2.2.2.2.2.2.2.2 rfl j).trans ((h_upo es112.2.2.2.2.2.2.2.2.2.2.2.2.2 rfl j).trans ((h_upo es110.2.2.2.2.2.2.2.2.2.2.2.2.2 rfl j))))) (es125.2.2.2.2.2.2.1) (es125.2.2.2.2.2.2.2.1) (es125.2.2.2.2.2.2.2.2.1) (es125.2.2.2.2.2.2.2.2.2.1) (es125.2.2.2.2.2.2.2.2.2.2.1) (fun j => (h_upo es125.2.2.2.2.2.2.2.2.2.2.2.2.2.2 rfl j)) (r_gatA pr10 (by omega) (by omega) (by omega) (by omega) (by omega) (by omega) (by omega))) (Or.inr (Or.inr (Or.inr (Or.inr ⟨by omega, by omega, by omega, by omega, by omega, by omega⟩)))) _ _ (h_al_ok ⟨rfl, trivial⟩ hlw126) hRw126)
set_option maxHeartbeats 100000000 in
theorem ls_gat_b {ns : Nat} {σ1 σ2 : h_S} (hI1 : h_I σ1) (hI2 : h_I σ2) (hTL : d_tape σ1 σ2) (y1 : Int32) (c1 : Int) (hy1 : y1.toInt = c1) (pr0 : σ1 64 2 = σ2 98 15) (pr1 : σ1 64 4 = σ2 98 16) (pr2 : σ1 63 2 = σ2 98 13) (pr3 : σ1 66 8 = σ2 98 5) (pr4 : σ1 66 9 = σ2 98 6) (pr5 : σ1 66 10 = σ2 101 43) (pr6 : σ1 69 2 = σ2 101 18) (pr7 : σ1 72 2 = σ2 101 25) (pr8 : σ1 63 5 = σ2 98 7) (pr9 : σ1 64 2 ≤ σ1 64 1) (pr10 : d_RD σ1 σ2) (pr11 : c1 = 6) (pc0 : ((σ1 63 2 = 0) ∧ (σ1 64 3 = 0) ∧ (0 ≤ σ1 66 9 ∧ σ1 66 9 ≤ 2) ∧ (σ2 98 13 = 0) ∧ (σ2 98 17 = 0) ∧ (0 ≤ σ2 98 6 ∧ σ2 98 6 ≤ 2) ∧ (σ1 64 4 = σ1 64 1)) ∨ ((σ1 63 2 = 0) ∧ (σ1 64 3 = 1) ∧ (0 ≤ σ1 66 9 ∧ σ1 66 9 ≤ 2) ∧ (σ2 98 13 = 0) ∧ (σ2 98 17 = 1) ∧ (0 ≤ σ2 98 6 ∧ σ2 98 6 ≤ 2) ∧ (σ1 64 4 < σ1 64 2)) ∨ ((σ1 63 2 = 0) ∧ (σ1 64 3 = 2) ∧ (0 ≤ σ1 66 9 ∧ σ1 66 9 ≤ 2) ∧ (σ2 98 13 = 0) ∧ (σ2 98 17 = 2) ∧ (0 ≤ σ2 98 6 ∧ σ2 98 6 ≤ 2) ∧ (0 ≤ σ1 64 5 ∧ σ1 64 5 ≤ 99) ∧ (0 ≤ σ2 98 18 ∧ σ2 98 18 ≤ 99) ∧ (σ1 64 5 = σ2 98 18) ∧ (σ1 64 4 < σ1 64 2)) ∨ ((σ1 63 2 = 0) ∧ (σ1 64 3 = 3) ∧ (0 ≤ σ1 66 9 ∧ σ1 66 9 ≤ 2) ∧ (σ2 98 13 = 0) ∧ (σ2 98 17 = 3) ∧ (0 ≤ σ2 98 6 ∧ σ2 98 6 ≤ 2) ∧ (σ1 64 4 < σ1 64 2))) {cs1 cs2 : List d_Fr} {Q : d_Q} (kx0 : ∀ (s t : h_S), h_I s → h_I t → h_F (k_in k_pl) s σ1 → h_F (k_in k_pm) t σ2 → (s 64 2 = t 98 15) → (s 64 4 = t 98 16) → (s 63 2 = t 98 13) → (s 64 2 ≤ s 64 1) → (σ1 64 2 ≤ s 64 2) → (d_ok s t) → (((1 ≤ s 63 2 ∧ s 63 2 ≤ 6) ∧ (1 ≤ t 98 13 ∧ t 98 13 ≤ 6) ∧ (s 63 2 = t 98 13) ∧ (s 63 3 = t 98 14)) ∨ ((s 63 2 = 0) ∧ (s 64 3 = 0) ∧ (t 98 13 = 0) ∧ (t 98 17 = 0) ∧ (s 64 4 = s 64 1) ∧ ((s 64 2 = σ1 64 2 ∧ s 64 3 = σ1 64 3) ∨ σ1 64 2 < s 64 2)) ∨ ((s 63 2 = 0) ∧ (s 64 3 = 1) ∧ (t 98 13 = 0) ∧ (t 98 17 = 1) ∧ (s 64 4 < s 64 2) ∧ ((s 64 2 = σ1 64 2 ∧ s 64 3 = σ1 64 3) ∨ σ1 64 2 < s 64 2)) ∨ ((s 63 2 = 0) ∧ (s 64 3 = 2) ∧ (t 98 13 = 0) ∧ (t 98 17 = 2) ∧ (0 ≤ s 64 5 ∧ s 64 5 ≤ 99) ∧ (0 ≤ t 98 18 ∧ t 98 18 ≤ 99) ∧ (s 64 5 = t 98 18) ∧ (s 64 4 < s 64 2) ∧ ((s 64 2 = σ1 64 2 ∧ s 64 3 = σ1 64 3) ∨ σ1 64 2 < s 64 2)) ∨ ((s 63 2 = 0) ∧ (s 64 3 = 3) ∧ (t 98 13 = 0) ∧ (t 98 17 = 3) ∧ (s 64 4 < s 64 2) ∧ ((s 64 2 = σ1 64 2 ∧ s 64 3 = σ1 64 3) ∨ σ1 64 2 < s 64 2))) → ∀ lv2 mem2, h_loc [(0, .ref 98)] lv2 → h_R (g_Y ns) t mem2 → h_T g_P (g_Y ns) 61 61 [(0, .ref 63)] [] s (d_cs g_P (g_Y ns) cs1 (d_L g_P (g_Y ns) (153, 178, lv2, []) cs2 mem2 Q))) : ∀ lv2 mem2, h_loc [(0, .ref 98), (1, .int y1)] lv2 → h_R (g_Y ns) σ2 mem2 → h_T g_P (g_Y ns) 61 20 [(0, .ref 63)] [] σ1 (d_cs g_P (g_Y ns) cs1 (d_L g_P (g_Y ns) (153, 0, lv2, []) cs2 mem2 Q)) := by
  intro lv2 mem2 hl2 hR2
  have hT := hTL.1
  have hL := hTL.2
  have F1 : h_F (k_in k_pl) σ1 σ1 := h_F.rf
  have F2 : h_F (k_in k_pm) σ2 σ2 := h_F.rf
  have ge0 := tf_64_1 hI1
  have ge1 := tf_66_8 hI1
  have ge2 := tf_66_9 hI1
  have ge3 := tf_66_10 hI1
  have ge4 := tf_69_2 hI1
  have ge5 := tf_72_2 hI1
  have ge6 := tf_63_5 hI1
  have ge7 := tf_63_2 hI1
  have ge8 := tf_98_8 hI2
  have ge9 := tf_98_9 hI2
  have ge10 := tf_98_13 hI2
  show h_T g_P (g_Y ns) 61 20 [(0, .ref 63)] [] σ1 _
  refine h_aload_n (pc' := 21) rfl rfl rfl ?_
  refine h_bipush (pc' := 23) (x := (Int32.ofInt 9)) rfl rfl cb_9 ?_
  refine d_toM (g_inj ns) hl2 hR2 (fun lvw1 memw1 hlw1 hRw1 => ?_)
  show h_T g_P (g_Y ns) 153 0 [(0, .ref 98), (1, .int y1)] [] σ2 _
  refine h_iload_n (pc' := 1) rfl rfl rfl ?_
  refine h_iconst (pc' := 2) (x := (Int32.ofInt 3)) rfl rfl rfl ?_
  refine h_cgt (tg := 61) (pc' := 5) rfl rfl rfl hy1 ci_3 (fun c2 => ?_) (fun c2 => absurd c2 (by omega))
  refine h_iload_n (pc' := 62) rfl rfl rfl ?_
  refine h_iconst (pc' := 63) (x := (Int32.ofInt 4)) rfl rfl rfl ?_
  refine h_cne (tg := 82) (pc' := 66) rfl rfl rfl hy1 ci_4 (fun c3 => ?_) (fun c3 => absurd c3 (by omega))
  refine h_iload_n (pc' := 83) rfl rfl rfl ?_
  refine h_iconst (pc' := 84) (x := (Int32.ofInt 5)) rfl rfl rfl ?_
  refine h_cne (tg := 103) (pc' := 87) rfl rfl rfl hy1 ci_5 (fun c4 => ?_) (fun c4 => absurd c4 (by omega))
  refine h_iload_n (pc' := 104) rfl rfl rfl ?_
  refine h_bipush (pc' := 106) (x := (Int32.ofInt 6)) rfl rfl cb_6 ?_
  refine h_cne (tg := 174) (pc' := 109) rfl rfl rfl hy1 ci_6 (fun c5 => absurd c5 (by omega)) (fun c5 => ?_)
  refine h_aload_n (pc' := 110) rfl rfl rfl ?_
  refine h_getR (pc' := 113) rfl rfl rfl rfl rfl ?_
  refine h_bipush (pc' := 115) (x := (Int32.ofInt 26)) rfl rfl cb_26 ?_
  refine h_aload_n (pc' := 116) rfl rfl rfl ?_
  refine h_getI (pc' := 119) (v := σ2 98 6) rfl rfl rfl rfl rfl rfl (fun z6 hz6 => ?_)
  have tz6 := tf_98_6 hI2
  refine h_iadd (pc' := 120) rfl rfl ci_26 hz6 rfl (by omega) (by omega) (fun z7 hz7 => ?_)
  clear hz6
  refine h_aload_n (pc' := 121) rfl rfl rfl ?_
  refine h_iconst (pc' := 122) (x := (Int32.ofInt 0)) rfl rfl rfl ?_
  refine h_bipush (pc' := 124) (x := (Int32.ofInt 9)) rfl rfl cb_9 ?_
  refine d_pcall (g_inj ns) (m1 := 58) (pc1' := 26) (M1 := [(0, .ref 63), (1, .int (Int32.ofInt 9))]) (rest1 := []) (m2 := 149) (pc2' := 127) (M2 := [(0, .ref 98), (1, .int (Int32.ofInt 0)), (2, .int (Int32.ofInt 9))]) (rest2 := [.int z7, .ref 101]) ⟨false, _, _, _, _, _, _, rfl, rfl, rfl, rfl, rfl, rfl, rfl⟩ ⟨false, _, _, _, _, _, _, rfl, rfl, rfl, rfl, rfl, rfl, rfl⟩ hRw1 ?_
  refine pp_num hI1 hI2 (hTL.fr (F1.mono rfl) (F2.mono rfl)) (Int32.ofInt 9) _ ci_9 (Int32.ofInt 9) _ ci_9 (by omega) (by omega) (by omega) (by omega) (by omega) (by omega) (pc0.elim (fun pc0 => (Or.inr (Or.inl ⟨by omega, by omega, by omega, by omega, by omega⟩))) (fun pc0 => (pc0.elim (fun pc0 => (Or.inr (Or.inr (Or.inl ⟨by omega, by omega, by omega, by omega, by omega⟩)))) (fun pc0 => (pc0.elim (fun pc0 => (Or.inr (Or.inr (Or.inr (Or.inl ⟨by omega, by omega, by omega, by omega, by omega, by omega, by omega, by omega⟩))))) (fun pc0 => (Or.inr (Or.inr (Or.inr (Or.inr ⟨by omega, by omega, by omega, by omega, by omega⟩)))))))))) (fun rq8x bq8x hq8x rq8m bq8m hq8m sq8 tq8 Isq8 Itq8 Gsq8 Gtq8 yq8_0 yq8_1 yq8_2 yq8_3 yq8_4 pcq8 memq8 hRq8 => ?_)
  have Fsq8 := (Gsq8.mono (B := k_pl) rfl).tr F1
  have Ftq8 := (Gtq8.mono (B := k_pm) rfl).tr F2
  have esq8_6 : sq8 64 1 = σ1 64 1 := (Gsq8 64 1 rfl).trans rfl
  have esq8_7 : sq8 66 8 = σ1 66 8 := (Gsq8 66 8 rfl).trans rfl
  have esq8_8 : sq8 66 9 = σ1 66 9 := (Gsq8 66 9 rfl).trans rfl
  have esq8_9 : sq8 66 10 = σ1 66 10 := (Gsq8 66 10 rfl).trans rfl
  have esq8_10 : sq8 69 2 = σ1 69 2 := (Gsq8 69 2 rfl).trans rfl
  have esq8_11 : sq8 72 2 = σ1 72 2 := (Gsq8 72 2 rfl).trans rfl
  have esq8_12 : sq8 63 5 = σ1 63 5 := (Gsq8 63 5 rfl).trans rfl
  have etq8_6 : tq8 98 5 = σ2 98 5 := (Gtq8 98 5 rfl).trans rfl
  have etq8_7 : tq8 98 6 = σ2 98 6 := (Gtq8 98 6 rfl).trans rfl
  have etq8_8 : tq8 98 7 = σ2 98 7 := (Gtq8 98 7 rfl).trans rfl
  have etq8_9 : tq8 98 8 = σ2 98 8 := (Gtq8 98 8 rfl).trans rfl
  have etq8_10 : tq8 98 9 = σ2 98 9 := (Gtq8 98 9 rfl).trans rfl
  have etq8_11 : tq8 101 18 = σ2 101 18 := (Gtq8 101 18 rfl).trans rfl
  have etq8_12 : tq8 101 25 = σ2 101 25 := (Gtq8 101 25 rfl).trans rfl
  have etq8_13 : tq8 101 43 = σ2 101 43 := (Gtq8 101 43 rfl).trans rfl
  rcases pcq8 with pcq8 | pcq8
  · show h_T g_P (g_Y ns) 153 127 [(0, .ref 98), (1, .int y1)] [.int rq8m, .int z7, .ref 101] tq8 _
    refine h_iast (pc' := 128) rfl rfl rfl rfl hz7 (by omega) (by omega) hq8m (h_fgt (E := fun s => s 98 15 = tq8 98 15 ∧ s 98 16 = tq8 98 16 ∧ s 98 17 = tq8 98 17 ∧ s 98 18 = tq8 98 18 ∧ s 98 13 = tq8 98 13 ∧ s 98 14 = tq8 98 14 ∧ s 98 5 = σ2 98 5 ∧ s 98 6 = σ2 98 6 ∧ s 98 7 = σ2 98 7 ∧ s 98 8 = σ2 98 8 ∧ s 98 9 = σ2 98 9 ∧ s 101 18 = σ2 101 18 ∧ s 101 25 = σ2 101 25 ∧ s 101 43 = σ2 101 43 ∧ s = h_up tq8 101 (26 + (σ2 98 6)) bq8m) _ (ip_101_6 Itq8 (by omega) (by omega)) (Ftq8.up rfl) ⟨rfl, rfl, rfl, rfl, rfl, rfl, etq8_6, etq8_7, etq8_8, etq8_9, etq8_10, h_up_n2 (by omega) etq8_11, h_up_n2 (by omega) etq8_12, h_up_n2 (by omega) etq8_13, rfl⟩ (fun s9 Is9 Fs9 (es9 : s9 98 15 = tq8 98 15 ∧ s9 98 16 = tq8 98 16 ∧ s9 98 17 = tq8 98 17 ∧ s9 98 18 = tq8 98 18 ∧ s9 98 13 = tq8 98 13 ∧ s9 98 14 = tq8 98 14 ∧ s9 98 5 = σ2 98 5 ∧ s9 98 6 = σ2 98 6 ∧ s9 98 7 = σ2 98 7 ∧ s9 98 8 = σ2 98 8 ∧ s9 98 9 = σ2 98 9 ∧ s9 101 18 = σ2 101 18 ∧ s9 101 25 = σ2 101 25 ∧ s9 101 43 = σ2 101 43 ∧ s9 = h_up tq8 101 (26 + (σ2 98 6)) bq8m) => ?_))
    clear hq8m hz7
    refine h_aload_n (pc' := 129) rfl rfl rfl ?_
    refine h_getI (pc' := 132) (v := tq8 98 13) rfl rfl rfl rfl rfl es9.2.2.2.2.1 (fun z10 hz10 => ?_)
    have tz10 := tf_98_13 Itq8
    refine h_zne (tg := 161) (pc' := 135) rfl rfl rfl hz10 (fun c11 => ?_) (fun c11 => absurd c11 (by omega))
    clear hz10
    refine h_aload_n (pc' := 162) rfl rfl rfl ?_
    refine h_dup (pc' := 163) rfl rfl rfl ?_
    refine h_getI (pc' := 166) (v := σ2 98 6) rfl rfl rfl rfl rfl es9.2.2.2.2.2.2.2.1 (fun z12 hz12 => ?_)
    refine h_iconst (pc' := 167) (x := (Int32.ofInt 1)) rfl rfl rfl ?_
    refine h_iadd (pc' := 168) rfl rfl hz12 ci_1 rfl (by omega) (by omega) (fun z13 hz13 => ?_)
    clear hz12
    refine h_put (pc' := 171) rfl rfl rfl rfl rfl rfl hz13 rfl (h_fgt (E := fun s => s 98 15 = tq8 98 15 ∧ s 98 16 = tq8 98 16 ∧ s 98 17 = tq8 98 17 ∧ s 98 18 = tq8 98 18 ∧ s 98 13 = tq8 98 13 ∧ s 98 14 = tq8 98 14 ∧ s 98 5 = σ2 98 5 ∧ s 98 6 = ((σ2 98 6) + 1) ∧ s 98 7 = σ2 98 7 ∧ s 98 8 = σ2 98 8 ∧ s 98 9 = σ2 98 9 ∧ s 101 18 = σ2 101 18 ∧ s 101 25 = σ2 101 25 ∧ s 101 43 = σ2 101 43 ∧ s = h_up s9 98 6 ((σ2 98 6) + 1)) _ (if_98_6 Is9 (by omega)) (Fs9.up rfl) ⟨es9.1, es9.2.1, es9.2.2.1, es9.2.2.2.1, es9.2.2.2.2.1, es9.2.2.2.2.2.1, es9.2.2.2.2.2.2.1, rfl, es9.2.2.2.2.2.2.2.2.1, es9.2.2.2.2.2.2.2.2.2.1, es9.2.2.2.2.2.2.2.2.2.2.1, es9.2.2.2.2.2.2.2.2.2.2.2.1, es9.2.2.2.2.2.2.2.2.2.2.2.2.1, es9.2.2.2.2.2.2.2.2.2.2.2.2.2.1, rfl⟩ (fun s14 Is14 Fs14 (es14 : s14 98 15 = tq8 98 15 ∧ s14 98 16 = tq8 98 16 ∧ s14 98 17 = tq8 98 17 ∧ s14 98 18 = tq8 98 18 ∧ s14 98 13 = tq8 98 13 ∧ s14 98 14 = tq8 98 14 ∧ s14 98 5 = σ2 98 5 ∧ s14 98 6 = ((σ2 98 6) + 1) ∧ s14 98 7 = σ2 98 7 ∧ s14 98 8 = σ2 98 8 ∧ s14 98 9 = σ2 98 9 ∧ s14 101 18 = σ2 101 18 ∧ s14 101 25 = σ2 101 25 ∧ s14 101 43 = σ2 101 43 ∧ s14 = h_up s9 98 6 ((σ2 98 6) + 1)) => ?_))
    refine h_goto (pc' := 178) rfl rfl ?_
    refine d_toL (g_inj ns) hlw1 hRq8 (fun lvw15 memw15 hlw15 hRw15 => ?_)
    show h_T g_P (g_Y ns) 61 26 [(0, .ref 63)] [.int rq8x] sq8 _
    refine h_istore_n (pc' := 27) (M := [(1, .int rq8x), (0, .ref 63)]) rfl rfl rfl rfl ?_
    refine h_aload_n (pc' := 28) rfl rfl rfl ?_
    refine h_call (sp := false) (pc' := 31) (M := [(0, .ref 63)]) rfl rfl rfl rfl rfl rfl rfl rfl ?_
    refine h_aload_n (pc' := 1) rfl rfl rfl ?_
    refine h_getI (pc' := 4) (v := sq8 63 2) rfl rfl rfl rfl rfl rfl (fun z16 hz16 => ?_)
    have tz16 := tf_63_2 Isq8
    refine h_zne (tg := 22) (pc' := 7) rfl rfl rfl hz16 (fun c17 => ?_) (fun c17 => absurd c17 (by omega))
    clear hz16
    refine h_iconst (pc' := 23) (x := (Int32.ofInt 0)) rfl rfl rfl ?_
    refine h_zret rfl rfl ci_0 (by omega) (h_Kv ?_)
    refine h_zeq (tg := 42) (pc' := 34) rfl rfl rfl ci_0 (fun c18 => ?_) (fun c18 => absurd c18 (by omega))
    refine h_bipush (pc' := 44) (x := (Int32.ofInt (-4))) rfl rfl cb_m4 ?_
    refine h_istore_n (pc' := 45) (M := [(2, .int (Int32.ofInt (-4))), (1, .int rq8x), (0, .ref 63)]) rfl rfl rfl rfl ?_
    refine h_aload_n (pc' := 46) rfl rfl rfl ?_
    refine h_getI (pc' := 49) (v := sq8 63 2) rfl rfl rfl rfl rfl rfl (fun z19 hz19 => ?_)
    refine h_zne (tg := 61) (pc' := 52) rfl rfl rfl hz19 (fun c20 => ?_) (fun c20 => absurd c20 (by omega))
    clear hz19
    exact h_wk [(0, .ref 63)] ⟨rfl, trivial⟩ (kx0 _ _ Isq8 Is14 Fsq8 Fs14 (by omega) (by omega) (by omega) (by omega) (by omega) (fun h => absurd h (by omega)) (Or.inl ⟨by omega, by omega, by omega, by omega⟩) _ _ (h_al_ok ⟨rfl, trivial⟩ hlw15) hRw15)
  · show h_T g_P (g_Y ns) 153 127 [(0, .ref 98), (1, .int y1)] [.int rq8m, .int z7, .ref 101] tq8 _
    refine h_iast (pc' := 128) rfl rfl rfl rfl hz7 (by omega) (by omega) hq8m (h_fgt (E := fun s => s 98 15 = tq8 98 15 ∧ s 98 16 = tq8 98 16 ∧ s 98 17 = tq8 98 17 ∧ s 98 18 = tq8 98 18 ∧ s 98 13 = tq8 98 13 ∧ s 98 14 = tq8 98 14 ∧ s 98 5 = σ2 98 5 ∧ s 98 6 = σ2 98 6 ∧ s 98 7 = σ2 98 7 ∧ s 98 8 = σ2 98 8 ∧ s 98 9 = σ2 98 9 ∧ s 101 18 = σ2 101 18 ∧ s 101 25 = σ2 101 25 ∧ s 101 43 = σ2 101 43 ∧ s = h_up tq8 101 (26 + (σ2 98 6)) bq8m) _ (ip_101_6 Itq8 (by omega) (by omega)) (Ftq8.up rfl) ⟨rfl, rfl, rfl, rfl, rfl, rfl, etq8_6, etq8_7, etq8_8, etq8_9, etq8_10, h_up_n2 (by omega) etq8_11, h_up_n2 (by omega) etq8_12, h_up_n2 (by omega) etq8_13, rfl⟩ (fun s21 Is21 Fs21 (es21 : s21 98 15 = tq8 98 15 ∧ s21 98 16 = tq8 98 16 ∧ s21 98 17 = tq8 98 17 ∧ s21 98 18 = tq8 98 18 ∧ s21 98 13 = tq8 98 13 ∧ s21 98 14 = tq8 98 14 ∧ s21 98 5 = σ2 98 5 ∧ s21 98 6 = σ2 98 6 ∧ s21 98 7 = σ2 98 7 ∧ s21 98 8 = σ2 98 8 ∧ s21 98 9 = σ2 98 9 ∧ s21 101 18 = σ2 101 18 ∧ s21 101 25 = σ2 101 25 ∧ s21 101 43 = σ2 101 43 ∧ s21 = h_up tq8 101 (26 + (σ2 98 6)) bq8m) => ?_))
    clear hq8m hz7
    refine d_toL (g_inj ns) hlw1 hRq8 (fun lvw22 memw22 hlw22 hRw22 => ?_)
    show h_T g_P (g_Y ns) 61 26 [(0, .ref 63)] [.int rq8x] sq8 _
    refine h_istore_n (pc' := 27) (M := [(1, .int rq8x), (0, .ref 63)]) rfl rfl rfl rfl ?_
    refine h_wk [(0, .ref 63), (1, .int rq8x)] ⟨rfl, rfl, trivial⟩ (ls_gat_c Isq8 Is21 (hTL.fr (Fsq8.mono rfl) (Fs21.mono rfl)) rq8x _ hq8x  (by omega) (by omega) (by omega) (by omega) (by omega) (by omega) (by omega) (by omega) (by omega) (by omega) (d_mk (esq8_7) (esq8_8) (esq8_9) (esq8_10) (esq8_11) (esq8_12) (fun j => (Gsq8 67 j rfl)) (fun j => (Gsq8 68 j rfl)) (fun j => (Gsq8 70 j rfl)) (fun j => (Gsq8 71 j rfl)) (fun j => (Gsq8 73 j rfl)) (fun j => (Gsq8 74 j rfl)) (fun j => (Gsq8 75 j rfl)) (fun j => (Gsq8 76 j rfl)) (fun j => (Gsq8 77 j rfl)) (fun j => (Gsq8 78 j rfl)) (es21.2.2.2.2.2.2.1) (es21.2.2.2.2.2.2.2.1) (es21.2.2.2.2.2.2.2.2.1) (es21.2.2.2.2.2.2.2.2.2.1) (es21.2.2.2.2.2.2.2.2.2.2.1) (fun j => (h_upi es21.2.2.2.2.2.2.2.2.2.2.2.2.2.2 j).trans (congrArg (fun z => if j = (26 + (σ2 98 6)) then bq8m else z) ((Gtq8 101 j rfl)))) (r_g0 pr10 (by omega) (by omega) (by omega) (by omega) (by omega) (by omega) (by omega))) (h_up26 es21.2.2.2.2.2.2.2.2.2.2.2.2.2.2 (by omega) (by omega)) (by omega) (pcq8.elim (fun pcq8 => (Or.inl ⟨by omega, by omega, by omega, by omega, by omega, by omega, by omega⟩)) (fun pcq8 => (pcq8.elim (fun pcq8 => (Or.inr (Or.inl ⟨by omega, by omega, by omega, by omega, by omega, by omega, by omega⟩))) (fun pcq8 => (pcq8.elim (fun pcq8 => (Or.inr (Or.inr (Or.inl ⟨by omega, by omega, by omega, by omega, by omega, by omega, by omega, by omega, by omega, by omega⟩)))) (fun pcq8 => (Or.inr (Or.inr (Or.inr ⟨by omega, by omega, by omega, by omega, by omega, by omega, by omega⟩))))))))) (fun sq23 tq23 Isq23 Itq23 Gsq23 Gtq23   yq23_0 yq23_1 yq23_2 yq23_3 yq23_4 yq23_5 pcq23 lvq23 memq23 hlq23 hRq23 => ?_) _ _ (h_al_ok ⟨rfl, trivial⟩ hlw22) hRw22)
    · have Fsq23 := (Gsq23.mono (B := k_pl) rfl).tr Fsq8
      have Ftq23 := (Gtq23.mono (B := k_pm) rfl).tr Fs21
      have Isq23 := Isq23
      have Itq23 := Itq23
      have Gsq23 := Gsq23
      have Gtq23 := Gtq23
      have esq23_6 : sq23 64 1 = σ1 64 1 := (Gsq23 64 1 rfl).trans esq8_6
      show h_T g_P (g_Y ns) 61 61 [(0, .ref 63)] [] sq23 _
      clear hq8x
      refine d_toM (g_inj ns) hlq23 hRq23 (fun lvw24 memw24 hlw24 hRw24 => ?_)
      show h_T g_P (g_Y ns) 153 178 [(0, .ref 98)] [] tq23 _
      refine d_toL (g_inj ns) hlw24 hRw24 (fun lvw25 memw25 hlw25 hRw25 => ?_)
      show h_T g_P (g_Y ns) 61 61 [(0, .ref 63)] [] sq23 _
      exact h_wk [(0, .ref 63)] ⟨rfl, trivial⟩ (kx0 _ _ Isq23 Itq23 Fsq23 Ftq23 (by omega) (by omega) (by omega) (by omega) (by omega) (yq23_5) (pcq23.elim (fun pcq23 => (Or.inl ⟨by omega, by omega, by omega, by omega⟩)) (fun pcq23 => (pcq23.elim (fun pcq23 => (Or.inr (Or.inl ⟨by omega, by omega, by omega, by omega, by omega, by omega⟩))) (fun pcq23 => (pcq23.elim (fun pcq23 => (Or.inr (Or.inr (Or.inl ⟨by omega, by omega, by omega, by omega, by omega, by omega⟩)))) (fun pcq23 => (pcq23.elim (fun pcq23 => (Or.inr (Or.inr (Or.inr (Or.inl ⟨by omega, by omega, by omega, by omega, by omega, by omega, by omega, by omega, by omega⟩))))) (fun pcq23 => (Or.inr (Or.inr (Or.inr (Or.inr ⟨by omega, by omega, by omega, by omega, by omega, by omega⟩)))))))))))) _ _ (h_al_ok ⟨rfl, trivial⟩ hlw25) hRw25)
set_option maxHeartbeats 100000000 in
theorem ls_gat {ns : Nat} {σ1 σ2 : h_S} (hI1 : h_I σ1) (hI2 : h_I σ2) (hTL : d_tape σ1 σ2) (x1 : Int32) (a1 : Int) (hx1 : x1.toInt = a1) (y1 : Int32) (c1 : Int) (hy1 : y1.toInt = c1) (pr0 : σ1 64 2 = σ2 98 15) (pr1 : σ1 64 4 = σ2 98 16) (pr2 : σ1 63 2 = σ2 98 13) (pr3 : σ1 66 8 = σ2 98 5) (pr4 : σ1 66 9 = σ2 98 6) (pr5 : σ1 66 10 = σ2 101 43) (pr6 : σ1 69 2 = σ2 101 18) (pr7 : σ1 72 2 = σ2 101 25) (pr8 : σ1 63 5 = σ2 98 7) (pr9 : σ1 64 2 ≤ σ1 64 1) (pr10 : d_RD σ1 σ2) (pr11 : a1 = c1) (pr12 : a1 = 6) (pc0 : ((σ1 63 2 = 0) ∧ (σ2 98 13 = 0))) {cs1 cs2 : List d_Fr} {Q : d_Q} (kx0 : ∀ (s t : h_S), h_I s → h_I t → h_F (k_in k_pl) s σ1 → h_F (k_in k_pm) t σ2 → (s 64 2 = t 98 15) → (s 64 4 = t 98 16) → (s 63 2 = t 98 13) → (s 64 2 ≤ s 64 1) → (σ1 64 2 ≤ s 64 2) → (d_ok s t) → (((1 ≤ s 63 2 ∧ s 63 2 ≤ 6) ∧ (1 ≤ t 98 13 ∧ t 98 13 ≤ 6) ∧ (s 63 2 = t 98 13) ∧ (s 63 3 = t 98 14)) ∨ ((s 63 2 = 0) ∧ (s 64 3 = 3) ∧ (t 98 13 = 0) ∧ (t 98 17 = 3) ∧ (s 64 4 < s 64 2) ∧ (σ1 64 2 < s 64 2))) → ∀ lv2 mem2, h_loc [(0, .ref 98)] lv2 → h_R (g_Y ns) t mem2 → h_T g_P (g_Y ns) 56 180 [(0, .ref 63)] [] s (d_cs g_P (g_Y ns) cs1 (d_L g_P (g_Y ns) (154, 165, lv2, []) cs2 mem2 Q))) (kx1 : ∀ (s t : h_S), h_I s → h_I t → h_F (k_in k_pl) s σ1 → h_F (k_in k_pm) t σ2 → (s 64 2 = t 98 15) → (s 64 4 = t 98 16) → (s 63 2 = t 98 13) → (s 64 2 ≤ s 64 1) → (σ1 64 2 ≤ s 64 2) → (((1 ≤ s 63 2 ∧ s 63 2 ≤ 6) ∧ (1 ≤ t 98 13 ∧ t 98 13 ≤ 6) ∧ (s 63 2 = t 98 13) ∧ (s 63 3 = t 98 14))) → ∀ lv2 mem2, h_loc [(0, .ref 98)] lv2 → h_R (g_Y ns) t mem2 → h_T g_P (g_Y ns) 56 180 [(0, .ref 63)] [] s (d_cs g_P (g_Y ns) cs1 (d_L g_P (g_Y ns) (154, 139, lv2, []) cs2 mem2 Q))) : ∀ lv2 mem2, h_loc [(0, .ref 98), (1, .int y1)] lv2 → h_R (g_Y ns) σ2 mem2 → h_T g_P (g_Y ns) 56 116 [(0, .ref 63), (1, .int x1)] [] σ1 (d_cs g_P (g_Y ns) cs1 (d_L g_P (g_Y ns) (154, 23, lv2, []) cs2 mem2 Q)) := by
  intro lv2 mem2 hl2 hR2
  have hT := hTL.1
  have hL := hTL.2
  have F1 : h_F (k_in k_pl) σ1 σ1 := h_F.rf
  have F2 : h_F (k_in k_pm) σ2 σ2 := h_F.rf
  have ge0 := tf_64_1 hI1
  have ge1 := tf_66_8 hI1
  have ge2 := tf_66_9 hI1
  have ge3 := tf_66_10 hI1
  have ge4 := tf_69_2 hI1
  have ge5 := tf_72_2 hI1
  have ge6 := tf_63_5 hI1
  have ge7 := tf_63_2 hI1
  have ge8 := tf_98_8 hI2
  have ge9 := tf_98_9 hI2
  have ge10 := tf_98_13 hI2
  rcases pc0 with pc0
  · show h_T g_P (g_Y ns) 56 116 [(0, .ref 63), (1, .int x1)] [] σ1 _
    refine h_aload_n (pc' := 117) rfl rfl rfl ?_
    refine d_call (g_inj ns) (pc' := 120) (m := 61) (M := [(0, .ref 63)]) (rest := []) ⟨false, _, _, _, _, _, _, rfl, rfl, rfl, rfl, rfl, rfl, rfl⟩ (fun lv1 hlv1 => ?_)
    refine h_aload_n (pc' := 1) rfl rfl rfl ?_
    refine h_aload_n (pc' := 2) rfl rfl rfl ?_
    refine h_getR (pc' := 5) rfl rfl rfl rfl rfl ?_
    refine h_getI (pc' := 8) (v := σ1 66 9) rfl rfl rfl rfl rfl rfl (fun z2 hz2 => ?_)
    have tz2 := tf_66_9 hI1
    refine h_iconst (pc' := 9) (x := (Int32.ofInt 3)) rfl rfl rfl ?_
    refine h_clt (tg := 16) (pc' := 12) rfl rfl rfl hz2 ci_3 (fun c3 => ?_) (fun c3 => ?_)
    · clear hz2
      refine h_iconst (pc' := 17) (x := (Int32.ofInt 0)) rfl rfl rfl ?_
      refine d_call (g_inj ns) (pc' := 20) (m := 57) (M := [(0, .ref 63), (1, .int (Int32.ofInt 0))]) (rest := []) ⟨false, _, _, _, _, _, _, rfl, rfl, rfl, rfl, rfl, rfl, rfl⟩ (fun lv4 hlv4 => ?_)
      refine h_iload_n (pc' := 1) rfl rfl rfl ?_
      refine h_zeq (tg := 16) (pc' := 4) rfl rfl rfl ci_0 (fun c5 => ?_) (fun c5 => absurd c5 (by omega))
      refine h_aload_n (pc' := 17) rfl rfl rfl ?_
      refine d_toM (g_inj ns) hl2 hR2 (fun lvw6 memw6 hlw6 hRw6 => ?_)
      show h_T g_P (g_Y ns) 154 23 [(0, .ref 98), (1, .int y1)] [] σ2 _
      refine h_iload_n (pc' := 24) rfl rfl rfl ?_
      refine h_iconst (pc' := 25) (x := (Int32.ofInt 3)) rfl rfl rfl ?_
      refine h_cgt (tg := 37) (pc' := 28) rfl rfl rfl hy1 ci_3 (fun c7 => ?_) (fun c7 => absurd c7 (by omega))
      refine h_iload_n (pc' := 38) rfl rfl rfl ?_
      refine h_iconst (pc' := 39) (x := (Int32.ofInt 4)) rfl rfl rfl ?_
      refine h_cne (tg := 53) (pc' := 42) rfl rfl rfl hy1 ci_4 (fun c8 => ?_) (fun c8 => absurd c8 (by omega))
      refine h_iload_n (pc' := 54) rfl rfl rfl ?_
      refine h_iconst (pc' := 55) (x := (Int32.ofInt 5)) rfl rfl rfl ?_
      refine h_cne (tg := 69) (pc' := 58) rfl rfl rfl hy1 ci_5 (fun c9 => ?_) (fun c9 => absurd c9 (by omega))
      refine h_iload_n (pc' := 70) rfl rfl rfl ?_
      refine h_bipush (pc' := 72) (x := (Int32.ofInt 6)) rfl rfl cb_6 ?_
      refine h_cne (tg := 88) (pc' := 75) rfl rfl rfl hy1 ci_6 (fun c10 => absurd c10 (by omega)) (fun c10 => ?_)
      refine h_aload_n (pc' := 76) rfl rfl rfl ?_
      refine h_getI (pc' := 79) (v := σ2 98 6) rfl rfl rfl rfl rfl rfl (fun z11 hz11 => ?_)
      have tz11 := tf_98_6 hI2
      refine h_iconst (pc' := 80) (x := (Int32.ofInt 3)) rfl rfl rfl ?_
      refine h_cne (tg := 88) (pc' := 83) rfl rfl rfl hz11 ci_3 (fun c12 => ?_) (fun c12 => absurd c12 (by omega))
      clear hz11
      refine h_iload_n (pc' := 89) rfl rfl rfl ?_
      refine h_bipush (pc' := 91) (x := (Int32.ofInt 7)) rfl rfl cb_7 ?_
      refine h_cne (tg := 106) (pc' := 94) rfl rfl rfl hy1 ci_7 (fun c13 => ?_) (fun c13 => absurd c13 (by omega))
      refine h_aload_n (pc' := 107) rfl rfl rfl ?_
      refine h_aload_n (pc' := 108) rfl rfl rfl ?_
      refine h_getI (pc' := 111) (v := σ2 98 7) rfl rfl rfl rfl rfl rfl (fun z14 hz14 => ?_)
      have tz14 := tf_98_7 hI2
      refine h_zne (tg := 120) (pc' := 114) rfl rfl rfl hz14 (fun c15 => ?_) (fun c15 => ?_)
      · clear hz14
        refine h_iconst (pc' := 121) (x := (Int32.ofInt 1)) rfl rfl rfl ?_
        refine h_goto (pc' := 125) rfl rfl ?_
        refine h_put (pc' := 128) rfl rfl rfl rfl rfl rfl ci_1 (h_fb ci_1 (by omega)) (h_fgt (E := fun s => s 98 15 = σ2 98 15 ∧ s 98 16 = σ2 98 16 ∧ s 98 17 = σ2 98 17 ∧ s 98 18 = σ2 98 18 ∧ s 98 13 = σ2 98 13 ∧ s 98 14 = σ2 98 14 ∧ s 98 5 = σ2 98 5 ∧ s 98 6 = σ2 98 6 ∧ s 98 7 = 1 ∧ s 98 8 = σ2 98 8 ∧ s 98 9 = σ2 98 9 ∧ s 101 18 = σ2 101 18 ∧ s 101 25 = σ2 101 25 ∧ s 101 43 = σ2 101 43 ∧ s = h_up σ2 98 7 1) _ (if_98_7 hI2 (by omega)) (F2.up rfl) ⟨rfl, rfl, rfl, rfl, rfl, rfl, rfl, rfl, rfl, rfl, rfl, rfl, rfl, rfl, rfl⟩ (fun s16 Is16 Fs16 (es16 : s16 98 15 = σ2 98 15 ∧ s16 98 16 = σ2 98 16 ∧ s16 98 17 = σ2 98 17 ∧ s16 98 18 = σ2 98 18 ∧ s16 98 13 = σ2 98 13 ∧ s16 98 14 = σ2 98 14 ∧ s16 98 5 = σ2 98 5 ∧ s16 98 6 = σ2 98 6 ∧ s16 98 7 = 1 ∧ s16 98 8 = σ2 98 8 ∧ s16 98 9 = σ2 98 9 ∧ s16 101 18 = σ2 101 18 ∧ s16 101 25 = σ2 101 25 ∧ s16 101 43 = σ2 101 43 ∧ s16 = h_up σ2 98 7 1) => ?_))
        refine h_aload_n (pc' := 129) rfl rfl rfl ?_
        refine d_pcall (g_inj ns) (m1 := 54) (pc1' := 20) (M1 := [(0, .ref 63)]) (rest1 := []) (m2 := 148) (pc2' := 132) (M2 := [(0, .ref 98)]) (rest2 := []) ⟨false, _, _, _, _, _, _, rfl, rfl, rfl, rfl, rfl, rfl, rfl⟩ ⟨false, _, _, _, _, _, _, rfl, rfl, rfl, rfl, rfl, rfl, rfl⟩ hRw6 ?_
        refine pp_step hI1 Is16 (hTL.fr (F1.mono rfl) (Fs16.mono rfl)) (by omega) (by omega) (by omega) (by omega) (Or.inr ⟨by omega, by omega⟩) (fun sq17 tq17 Isq17 Itq17 Gsq17 Gtq17 yq17_0 yq17_1 yq17_2 yq17_3 yq17_4 pcq17 memq17 hRq17 => ?_)
        have Fsq17 := (Gsq17.mono (B := k_pl) rfl).tr F1
        have Ftq17 := (Gtq17.mono (B := k_pm) rfl).tr Fs16
        have esq17_6 : sq17 64 1 = σ1 64 1 := (Gsq17 64 1 rfl).trans rfl
        have esq17_7 : sq17 66 8 = σ1 66 8 := (Gsq17 66 8 rfl).trans rfl
        have esq17_8 : sq17 66 9 = σ1 66 9 := (Gsq17 66 9 rfl).trans rfl
        have esq17_9 : sq17 66 10 = σ1 66 10 := (Gsq17 66 10 rfl).trans rfl
        have esq17_10 : sq17 69 2 = σ1 69 2 := (Gsq17 69 2 rfl).trans rfl
        have esq17_11 : sq17 72 2 = σ1 72 2 := (Gsq17 72 2 rfl).trans rfl
        have esq17_12 : sq17 63 5 = σ1 63 5 := (Gsq17 63 5 rfl).trans rfl
        have etq17_6 : tq17 98 5 = σ2 98 5 := (Gtq17 98 5 rfl).trans es16.2.2.2.2.2.2.1
        have etq17_7 : tq17 98 6 = σ2 98 6 := (Gtq17 98 6 rfl).trans es16.2.2.2.2.2.2.2.1
        have etq17_8 : tq17 98 7 = 1 := (Gtq17 98 7 rfl).trans es16.2.2.2.2.2.2.2.2.1
        have etq17_9 : tq17 98 8 = σ2 98 8 := (Gtq17 98 8 rfl).trans es16.2.2.2.2.2.2.2.2.2.1
        have etq17_10 : tq17 98 9 = σ2 98 9 := (Gtq17 98 9 rfl).trans es16.2.2.2.2.2.2.2.2.2.2.1
        have etq17_11 : tq17 101 18 = σ2 101 18 := (Gtq17 101 18 rfl).trans es16.2.2.2.2.2.2.2.2.2.2.2.1
        have etq17_12 : tq17 101 25 = σ2 101 25 := (Gtq17 101 25 rfl).trans es16.2.2.2.2.2.2.2.2.2.2.2.2.1
        have etq17_13 : tq17 101 43 = σ2 101 43 := (Gtq17 101 43 rfl).trans es16.2.2.2.2.2.2.2.2.2.2.2.2.2.1
        show h_T g_P (g_Y ns) 154 132 [(0, .ref 98), (1, .int y1)] [] tq17 _
        refine h_aload_n (pc' := 133) rfl rfl rfl ?_
        refine h_getI (pc' := 136) (v := tq17 98 13) rfl rfl rfl rfl rfl rfl (fun z18 hz18 => ?_)
        have tz18 := tf_98_13 Itq17
        refine h_zle (tg := 140) (pc' := 139) rfl rfl rfl hz18 (fun c19 => ?_) (fun c19 => ?_)
        · clear hz18
          refine h_aload_n (pc' := 141) rfl rfl rfl ?_
          refine h_iload_n (pc' := 142) rfl rfl rfl ?_
          refine d_call (g_inj ns) (pc' := 145) (m := 153) (M := [(0, .ref 98), (1, .int y1)]) (rest := []) ⟨false, _, _, _, _, _, _, rfl, rfl, rfl, rfl, rfl, rfl, rfl⟩ (fun lv20 hlv20 => ?_)
          refine d_toL (g_inj ns) hlw6 hRq17 (fun lvw21 memw21 hlw21 hRw21 => ?_)
          show h_T g_P (g_Y ns) 57 20 [(0, .ref 63), (1, .int (Int32.ofInt 0))] [] sq17 _
          refine h_vret rfl rfl (d_retn hlv4 ?_)
          refine h_wk [(0, .ref 63)] ⟨rfl, trivial⟩ (ls_gat_b Isq17 Itq17 (hTL.fr (Fsq17.mono rfl) (Ftq17.mono rfl))  y1 _ hy1 (by omega) (by omega) (by omega) (by omega) (by omega) (by omega) (by omega) (by omega) (by omega) (by omega) (d_mk ((Gsq17 66 8 rfl)) ((Gsq17 66 9 rfl)) ((Gsq17 66 10 rfl)) ((Gsq17 69 2 rfl)) ((Gsq17 72 2 rfl)) ((Gsq17 63 5 rfl)) (fun j => (Gsq17 67 j rfl)) (fun j => (Gsq17 68 j rfl)) (fun j => (Gsq17 70 j rfl)) (fun j => (Gsq17 71 j rfl)) (fun j => (Gsq17 73 j rfl)) (fun j => (Gsq17 74 j rfl)) (fun j => (Gsq17 75 j rfl)) (fun j => (Gsq17 76 j rfl)) (fun j => (Gsq17 77 j rfl)) (fun j => (Gsq17 78 j rfl)) ((Gtq17 98 5 rfl).trans (h_upd es16.2.2.2.2.2.2.2.2.2.2.2.2.2.2 (by decide))) ((Gtq17 98 6 rfl).trans (h_upd es16.2.2.2.2.2.2.2.2.2.2.2.2.2.2 (by decide))) (by omega) ((Gtq17 98 8 rfl).trans (h_upd es16.2.2.2.2.2.2.2.2.2.2.2.2.2.2 (by decide))) ((Gtq17 98 9 rfl).trans (h_upd es16.2.2.2.2.2.2.2.2.2.2.2.2.2.2 (by decide))) (fun j => (Gtq17 101 j rfl).trans (h_upo es16.2.2.2.2.2.2.2.2.2.2.2.2.2.2 rfl j)) (pr10)) (by omega) (pcq17.elim (fun pcq17 => (by exfalso; omega)) (fun pcq17 => (pcq17.elim (fun pcq17 => (Or.inl ⟨by omega, by omega, by omega, by omega, by omega, by omega, by omega⟩)) (fun pcq17 => (pcq17.elim (fun pcq17 => (Or.inr (Or.inl ⟨by omega, by omega, by omega, by omega, by omega, by omega, by omega⟩))) (fun pcq17 => (pcq17.elim (fun pcq17 => (Or.inr (Or.inr (Or.inl ⟨by omega, by omega, by omega, by omega, by omega, by omega, by omega, by omega, by omega, by omega⟩)))) (fun pcq17 => (Or.inr (Or.inr (Or.inr ⟨by omega, by omega, by omega, by omega, by omega, by omega, by omega⟩))))))))))) (fun sq22 tq22 Isq22 Itq22 Gsq22 Gtq22   yq22_0 yq22_1 yq22_2 yq22_3 yq22_4 yq22_5 pcq22 lvq22 memq22 hlq22 hRq22 => ?_) _ _ (h_al_ok ⟨rfl, rfl, trivial⟩ hlw21) hRw21)
          · have Fsq22 := (Gsq22.mono (B := k_pl) rfl).tr Fsq17
            have Ftq22 := (Gtq22.mono (B := k_pm) rfl).tr Ftq17
            have Isq22 := Isq22
            have Itq22 := Itq22
            have Gsq22 := Gsq22
            have Gtq22 := Gtq22
            have esq22_6 : sq22 64 1 = σ1 64 1 := (Gsq22 64 1 rfl).trans esq17_6
            rcases pcq22 with pcq22 | pcq22
            · show h_T g_P (g_Y ns) 61 61 [(0, .ref 63)] [] sq22 _
              refine h_vret rfl rfl (d_retn hlv1 ?_)
              refine h_goto (pc' := 150) rfl rfl ?_
              refine h_aload_n (pc' := 151) rfl rfl rfl ?_
              refine h_getI (pc' := 154) (v := sq22 63 2) rfl rfl rfl rfl rfl rfl (fun z23 hz23 => ?_)
              have tz23 := tf_63_2 Isq22
              refine h_zne (tg := 180) (pc' := 157) rfl rfl rfl hz23 (fun c24 => ?_) (fun c24 => absurd c24 (by omega))
              clear hz23
              refine d_toM (g_inj ns) hlq22 hRq22 (fun lvw25 memw25 hlw25 hRw25 => ?_)
              show h_T g_P (g_Y ns) 153 178 [(0, .ref 98)] [] tq22 _
              refine h_vret rfl rfl (d_retn hlv20 ?_)
              refine h_aload_n (pc' := 146) rfl rfl rfl ?_
              refine h_getI (pc' := 149) (v := tq22 98 13) rfl rfl rfl rfl rfl rfl (fun z26 hz26 => ?_)
              have tz26 := tf_98_13 Itq22
              refine h_zne (tg := 165) (pc' := 152) rfl rfl rfl hz26 (fun c27 => ?_) (fun c27 => absurd c27 (by omega))
              clear hz26
              refine d_toL (g_inj ns) hlw25 hRw25 (fun lvw28 memw28 hlw28 hRw28 => ?_)
              show h_T g_P (g_Y ns) 56 180 [(0, .ref 63), (1, .int x1)] [] sq22 _
              exact h_wk [(0, .ref 63)] ⟨rfl, trivial⟩ (kx0 _ _ Isq22 Itq22 Fsq22 Ftq22 (by omega) (by omega) (by omega) (by omega) (by omega) (fun h => absurd h (by omega)) (Or.inl ⟨by omega, by omega, by omega, by omega⟩) _ _ (h_al_ok ⟨rfl, trivial⟩ hlw28) hRw28)
            · show h_T g_P (g_Y ns) 61 61 [(0, .ref 63)] [] sq22 _
              refine h_vret rfl rfl (d_retn hlv1 ?_)
              refine h_goto (pc' := 150) rfl rfl ?_
              refine d_toM (g_inj ns) hlq22 hRq22 (fun lvw29 memw29 hlw29 hRw29 => ?_)
              show h_T g_P (g_Y ns) 153 178 [(0, .ref 98)] [] tq22 _
              refine h_vret rfl rfl (d_retn hlv20 ?_)
              refine d_toL (g_inj ns) hlw29 hRw29 (fun lvw30 memw30 hlw30 hRw30 => ?_)
              show h_T g_P (g_Y ns) 56 150 [(0, .ref 63), (1, .int x1)] [] sq22 _
              refine h_wk [(0, .ref 63)] ⟨rfl, trivial⟩ (ls_sc Isq22 Itq22 (hTL.fr (Fsq22.mono rfl) (Ftq22.mono rfl))   (by omega) (by omega) (by omega) (by omega) (yq22_5) (pcq22.elim (fun pcq22 => (Or.inl ⟨by omega, by omega, by omega, by omega, by omega⟩)) (fun pcq22 => (pcq22.elim (fun pcq22 => (Or.inr (Or.inl ⟨by omega, by omega, by omega, by omega, by omega⟩))) (fun pcq22 => (pcq22.elim (fun pcq22 => (Or.inr (Or.inr (Or.inl ⟨by omega, by omega, by omega, by omega, by omega, by omega, by omega, by omega⟩)))) (fun pcq22 => (Or.inr (Or.inr (Or.inr ⟨by omega, by omega, by omega, by omega, by omega⟩))))))))) (fun sq31 tq31 Isq31 Itq31 Gsq31 Gtq31   yq31_0 yq31_1 yq31_2 yq31_3 yq31_4 yq31_5 pcq31 lvq31 memq31 hlq31 hRq31 => ?_) _ _ (h_al_ok ⟨rfl, trivial⟩ hlw30) hRw30)
              · have Fsq31 := (Gsq31.mono (B := k_pl) rfl).tr Fsq22
                have Ftq31 := (Gtq31.mono (B := k_pm) rfl).tr Ftq22
                have Isq31 := Isq31
                have Itq31 := Itq31
                have Gsq31 := Gsq31
                have Gtq31 := Gtq31
                have esq31_6 : sq31 64 1 = σ1 64 1 := (Gsq31 64 1 rfl).trans esq22_6
                rcases pcq31 with pcq31 | pcq31
                · show h_T g_P (g_Y ns) 56 180 [(0, .ref 63)] [] sq31 _
                  refine d_toM (g_inj ns) hlq31 hRq31 (fun lvw32 memw32 hlw32 hRw32 => ?_)
                  show h_T g_P (g_Y ns) 154 165 [(0, .ref 98)] [] tq31 _
                  refine d_toL (g_inj ns) hlw32 hRw32 (fun lvw33 memw33 hlw33 hRw33 => ?_)
                  show h_T g_P (g_Y ns) 56 180 [(0, .ref 63)] [] sq31 _
                  exact h_wk [(0, .ref 63)] ⟨rfl, trivial⟩ (kx0 _ _ Isq31 Itq31 Fsq31 Ftq31 (by omega) (by omega) (by omega) (by omega) (by omega) (fun h => absurd h (by omega)) (Or.inl ⟨by omega, by omega, by omega, by omega⟩) _ _ (h_al_ok ⟨rfl, trivial⟩ hlw33) hRw33)
                · show h_T g_P (g_Y ns) 56 180 [(0, .ref 63)] [] sq31 _
                  refine d_toM (g_inj ns) hlq31 hRq31 (fun lvw34 memw34 hlw34 hRw34 => ?_)
                  show h_T g_P (g_Y ns) 154 165 [(0, .ref 98)] [] tq31 _
                  refine d_toL (g_inj ns) hlw34 hRw34 (fun lvw35 memw35 hlw35 hRw35 => ?_)
                  show h_T g_P (g_Y ns) 56 180 [(0, .ref 63)] [] sq31 _
                  exact h_wk [(0, .ref 63)] ⟨rfl, trivial⟩ (kx0 _ _ Isq31 Itq31 Fsq31 Ftq31 (by omega) (by omega) (by omega) (by omega) (by omega) (yq31_5) (Or.inr ⟨by omega, by omega, by omega, by omega, by omega, by omega⟩) _ _ (h_al_ok ⟨rfl, trivial⟩ hlw35) hRw35)
        · clear hz18
          refine d_toL (g_inj ns) hlw6 hRq17 (fun lvw36 memw36 hlw36 hRw36 => ?_)
          show h_T g_P (g_Y ns) 57 20 [(0, .ref 63), (1, .int (Int32.ofInt 0))] [] sq17 _
          refine h_vret rfl rfl (d_retn hlv4 ?_)
          refine h_aload_n (pc' := 21) rfl rfl rfl ?_
          refine h_bipush (pc' := 23) (x := (Int32.ofInt 9)) rfl rfl cb_9 ?_
          refine h_call (sp := false) (pc' := 26) (M := [(0, .ref 63), (1, .int (Int32.ofInt 9))]) rfl rfl rfl rfl rfl rfl rfl rfl ?_
          refine h_aload_n (pc' := 1) rfl rfl rfl ?_
          refine h_getI (pc' := 4) (v := sq17 63 2) rfl rfl rfl rfl rfl rfl (fun z37 hz37 => ?_)
          have tz37 := tf_63_2 Isq17
          refine h_zne (tg := 30) (pc' := 7) rfl rfl rfl hz37 (fun c38 => ?_) (fun c38 => absurd c38 (by omega))
          clear hz37
          refine h_aload_n (pc' := 31) rfl rfl rfl ?_
          refine h_getI (pc' := 34) (v := sq17 63 2) rfl rfl rfl rfl rfl rfl (fun z39 hz39 => ?_)
          refine h_zne (tg := 60) (pc' := 37) rfl rfl rfl hz39 (fun c40 => ?_) (fun c40 => absurd c40 (by omega))
          clear hz39
          refine h_aload_n (pc' := 61) rfl rfl rfl ?_
          refine h_getR (pc' := 64) rfl rfl rfl rfl rfl ?_
          refine h_getI (pc' := 67) (v := sq17 64 5) rfl rfl rfl rfl rfl rfl (fun z41 hz41 => ?_)
          have tz41 := tf_64_5 Isq17
          refine h_istore_n (pc' := 68) (M := [(2, .int z41), (0, .ref 63), (1, .int (Int32.ofInt 9))]) rfl rfl rfl rfl ?_
          refine h_aload_n (pc' := 69) rfl rfl rfl ?_
          refine h_call (sp := false) (pc' := 72) (M := [(0, .ref 63)]) rfl rfl rfl rfl rfl rfl rfl rfl ?_
          refine h_aload_n (pc' := 1) rfl rfl rfl ?_
          refine h_getI (pc' := 4) (v := sq17 63 2) rfl rfl rfl rfl rfl rfl (fun z42 hz42 => ?_)
          refine h_zne (tg := 37) (pc' := 7) rfl rfl rfl hz42 (fun c43 => ?_) (fun c43 => absurd c43 (by omega))
          clear hz42
          refine h_vret rfl rfl (h_Kn ?_)
          refine h_iload_n (pc' := 73) rfl rfl rfl ?_
          refine h_iret rfl rfl (h_Kv ?_)
          refine h_istore_n (pc' := 27) (M := [(1, .int z41), (0, .ref 63)]) rfl rfl rfl rfl ?_
          refine h_aload_n (pc' := 28) rfl rfl rfl ?_
          refine h_call (sp := false) (pc' := 31) (M := [(0, .ref 63)]) rfl rfl rfl rfl rfl rfl rfl rfl ?_
          refine h_aload_n (pc' := 1) rfl rfl rfl ?_
          refine h_getI (pc' := 4) (v := sq17 63 2) rfl rfl rfl rfl rfl rfl (fun z44 hz44 => ?_)
          refine h_zne (tg := 22) (pc' := 7) rfl rfl rfl hz44 (fun c45 => ?_) (fun c45 => absurd c45 (by omega))
          clear hz44
          refine h_iconst (pc' := 23) (x := (Int32.ofInt 0)) rfl rfl rfl ?_
          refine h_zret rfl rfl ci_0 (by omega) (h_Kv ?_)
          refine h_zeq (tg := 42) (pc' := 34) rfl rfl rfl ci_0 (fun c46 => ?_) (fun c46 => absurd c46 (by omega))
          refine h_bipush (pc' := 44) (x := (Int32.ofInt (-4))) rfl rfl cb_m4 ?_
          refine h_istore_n (pc' := 45) (M := [(2, .int (Int32.ofInt (-4))), (1, .int z41), (0, .ref 63)]) rfl rfl rfl rfl ?_
          refine h_aload_n (pc' := 46) rfl rfl rfl ?_
          refine h_getI (pc' := 49) (v := sq17 63 2) rfl rfl rfl rfl rfl rfl (fun z47 hz47 => ?_)
          refine h_zne (tg := 61) (pc' := 52) rfl rfl rfl hz47 (fun c48 => ?_) (fun c48 => absurd c48 (by omega))
          clear hz47
          refine h_vret rfl rfl (d_retn hlv1 ?_)
          clear hz41
          refine h_goto (pc' := 150) rfl rfl ?_
          refine h_aload_n (pc' := 151) rfl rfl rfl ?_
          refine h_getI (pc' := 154) (v := sq17 63 2) rfl rfl rfl rfl rfl rfl (fun z49 hz49 => ?_)
          refine h_zne (tg := 180) (pc' := 157) rfl rfl rfl hz49 (fun c50 => ?_) (fun c50 => absurd c50 (by omega))
          clear hz49
          exact h_wk [(0, .ref 63)] ⟨rfl, trivial⟩ (kx1 _ _ Isq17 Itq17 Fsq17 Ftq17 (by omega) (by omega) (by omega) (by omega) (by omega) (pcq17.elim (fun pcq17 => ⟨by omega, by omega, by omega, by omega⟩) (fun pcq17 => (pcq17.elim (fun pcq17 => (by exfalso; omega)) (fun pcq17 => (pcq17.elim (fun pcq17 => (by exfalso; omega)) (fun pcq17 => (pcq17.elim (fun pcq17 => (by exfalso; omega)) (fun pcq17 => (by exfalso; omega))))))))) _ _ (h_al_ok ⟨rfl, trivial⟩ hlw36) hRw36)
      · clear hz14
        refine h_iload_n (pc' := 115) rfl rfl rfl ?_
        refine h_bipush (pc' := 117) (x := (Int32.ofInt 7)) rfl rfl cb_7 ?_
        refine h_cne (tg := 124) (pc' := 120) rfl rfl rfl hy1 ci_7 (fun c51 => ?_) (fun c51 => absurd c51 (by omega))
        refine h_iconst (pc' := 125) (x := (Int32.ofInt 0)) rfl rfl rfl ?_
        refine h_put (pc' := 128) rfl rfl rfl rfl rfl rfl ci_0 (h_fb ci_0 (by omega)) (h_fgt (E := fun s => s 98 15 = σ2 98 15 ∧ s 98 16 = σ2 98 16 ∧ s 98 17 = σ2 98 17 ∧ s 98 18 = σ2 98 18 ∧ s 98 13 = σ2 98 13 ∧ s 98 14 = σ2 98 14 ∧ s 98 5 = σ2 98 5 ∧ s 98 6 = σ2 98 6 ∧ s 98 7 = 0 ∧ s 98 8 = σ2 98 8 ∧ s 98 9 = σ2 98 9 ∧ s 101 18 = σ2 101 18 ∧ s 101 25 = σ2 101 25 ∧ s 101 43 = σ2 101 43 ∧ s = h_up σ2 98 7 0) _ (if_98_7 hI2 (by omega)) (F2.up rfl) ⟨rfl, rfl, rfl, rfl, rfl, rfl, rfl, rfl, rfl, rfl, rfl, rfl, rfl, rfl, rfl⟩ (fun s52 Is52 Fs52 (es52 : s52 98 15 = σ2 98 15 ∧ s52 98 16 = σ2 98 16 ∧ s52 98 17 = σ2 98 17 ∧ s52 98 18 = σ2 98 18 ∧ s52 98 13 = σ2 98 13 ∧ s52 98 14 = σ2 98 14 ∧ s52 98 5 = σ2 98 5 ∧ s52 98 6 = σ2 98 6 ∧ s52 98 7 = 0 ∧ s52 98 8 = σ2 98 8 ∧ s52 98 9 = σ2 98 9 ∧ s52 101 18 = σ2 101 18 ∧ s52 101 25 = σ2 101 25 ∧ s52 101 43 = σ2 101 43 ∧ s52 = h_up σ2 98 7 0) => ?_))
        refine h_aload_n (pc' := 129) rfl rfl rfl ?_
        refine d_pcall (g_inj ns) (m1 := 54) (pc1' := 20) (M1 := [(0, .ref 63)]) (rest1 := []) (m2 := 148) (pc2' := 132) (M2 := [(0, .ref 98)]) (rest2 := []) ⟨false, _, _, _, _, _, _, rfl, rfl, rfl, rfl, rfl, rfl, rfl⟩ ⟨false, _, _, _, _, _, _, rfl, rfl, rfl, rfl, rfl, rfl, rfl⟩ hRw6 ?_
        refine pp_step hI1 Is52 (hTL.fr (F1.mono rfl) (Fs52.mono rfl)) (by omega) (by omega) (by omega) (by omega) (Or.inr ⟨by omega, by omega⟩) (fun sq53 tq53 Isq53 Itq53 Gsq53 Gtq53 yq53_0 yq53_1 yq53_2 yq53_3 yq53_4 pcq53 memq53 hRq53 => ?_)
        have Fsq53 := (Gsq53.mono (B := k_pl) rfl).tr F1
        have Ftq53 := (Gtq53.mono (B := k_pm) rfl).tr Fs52
        have esq53_6 : sq53 64 1 = σ1 64 1 := (Gsq53 64 1 rfl).trans rfl
        have esq53_7 : sq53 66 8 = σ1 66 8 := (Gsq53 66 8 rfl).trans rfl
        have esq53_8 : sq53 66 9 = σ1 66 9 := (Gsq53 66 9 rfl).trans rfl
        have esq53_9 : sq53 66 10 = σ1 66 10 := (Gsq53 66 10 rfl).trans rfl
        have esq53_10 : sq53 69 2 = σ1 69 2 := (Gsq53 69 2 rfl).trans rfl
        have esq53_11 : sq53 72 2 = σ1 72 2 := (Gsq53 72 2 rfl).trans rfl
        have esq53_12 : sq53 63 5 = σ1 63 5 := (Gsq53 63 5 rfl).trans rfl
        have etq53_6 : tq53 98 5 = σ2 98 5 := (Gtq53 98 5 rfl).trans es52.2.2.2.2.2.2.1
        have etq53_7 : tq53 98 6 = σ2 98 6 := (Gtq53 98 6 rfl).trans es52.2.2.2.2.2.2.2.1
        have etq53_8 : tq53 98 7 = 0 := (Gtq53 98 7 rfl).trans es52.2.2.2.2.2.2.2.2.1
        have etq53_9 : tq53 98 8 = σ2 98 8 := (Gtq53 98 8 rfl).trans es52.2.2.2.2.2.2.2.2.2.1
        have etq53_10 : tq53 98 9 = σ2 98 9 := (Gtq53 98 9 rfl).trans es52.2.2.2.2.2.2.2.2.2.2.1
        have etq53_11 : tq53 101 18 = σ2 101 18 := (Gtq53 101 18 rfl).trans es52.2.2.2.2.2.2.2.2.2.2.2.1
        have etq53_12 : tq53 101 25 = σ2 101 25 := (Gtq53 101 25 rfl).trans es52.2.2.2.2.2.2.2.2.2.2.2.2.1
        have etq53_13 : tq53 101 43 = σ2 101 43 := (Gtq53 101 43 rfl).trans es52.2.2.2.2.2.2.2.2.2.2.2.2.2.1
        show h_T g_P (g_Y ns) 154 132 [(0, .ref 98), (1, .int y1)] [] tq53 _
        refine h_aload_n (pc' := 133) rfl rfl rfl ?_
        refine h_getI (pc' := 136) (v := tq53 98 13) rfl rfl rfl rfl rfl rfl (fun z54 hz54 => ?_)
        have tz54 := tf_98_13 Itq53
        refine h_zle (tg := 140) (pc' := 139) rfl rfl rfl hz54 (fun c55 => ?_) (fun c55 => ?_)
        · clear hz54
          refine h_aload_n (pc' := 141) rfl rfl rfl ?_
          refine h_iload_n (pc' := 142) rfl rfl rfl ?_
          refine d_call (g_inj ns) (pc' := 145) (m := 153) (M := [(0, .ref 98), (1, .int y1)]) (rest := []) ⟨false, _, _, _, _, _, _, rfl, rfl, rfl, rfl, rfl, rfl, rfl⟩ (fun lv56 hlv56 => ?_)
          refine d_toL (g_inj ns) hlw6 hRq53 (fun lvw57 memw57 hlw57 hRw57 => ?_)
          show h_T g_P (g_Y ns) 57 20 [(0, .ref 63), (1, .int (Int32.ofInt 0))] [] sq53 _
          refine h_vret rfl rfl (d_retn hlv4 ?_)
          refine h_wk [(0, .ref 63)] ⟨rfl, trivial⟩ (ls_gat_b Isq53 Itq53 (hTL.fr (Fsq53.mono rfl) (Ftq53.mono rfl))  y1 _ hy1 (by omega) (by omega) (by omega) (by omega) (by omega) (by omega) (by omega) (by omega) (by omega) (by omega) (d_mk ((Gsq53 66 8 rfl)) ((Gsq53 66 9 rfl)) ((Gsq53 66 10 rfl)) ((Gsq53 69 2 rfl)) ((Gsq53 72 2 rfl)) ((Gsq53 63 5 rfl)) (fun j => (Gsq53 67 j rfl)) (fun j => (Gsq53 68 j rfl)) (fun j => (Gsq53 70 j rfl)) (fun j => (Gsq53 71 j rfl)) (fun j => (Gsq53 73 j rfl)) (fun j => (Gsq53 74 j rfl)) (fun j => (Gsq53 75 j rfl)) (fun j => (Gsq53 76 j rfl)) (fun j => (Gsq53 77 j rfl)) (fun j => (Gsq53 78 j rfl)) ((Gtq53 98 5 rfl).trans (h_upd es52.2.2.2.2.2.2.2.2.2.2.2.2.2.2 (by decide))) ((Gtq53 98 6 rfl).trans (h_upd es52.2.2.2.2.2.2.2.2.2.2.2.2.2.2 (by decide))) (by omega) ((Gtq53 98 8 rfl).trans (h_upd es52.2.2.2.2.2.2.2.2.2.2.2.2.2.2 (by decide))) ((Gtq53 98 9 rfl).trans (h_upd es52.2.2.2.2.2.2.2.2.2.2.2.2.2.2 (by decide))) (fun j => (Gtq53 101 j rfl).trans (h_upo es52.2.2.2.2.2.2.2.2.2.2.2.2.2.2 rfl j)) (pr10)) (by omega) (pcq53.elim (fun pcq53 => (by exfalso; omega)) (fun pcq53 => (pcq53.elim (fun pcq53 => (Or.inl ⟨by omega, by omega, by omega, by omega, by omega, by omega, by omega⟩)) (fun pcq53 => (pcq53.elim (fun pcq53 => (Or.inr (Or.inl ⟨by omega, by omega, by omega, by omega, by omega, by omega, by omega⟩))) (fun pcq53 => (pcq53.elim (fun pcq53 => (Or.inr (Or.inr (Or.inl ⟨by omega, by omega, by omega, by omega, by omega, by omega, by omega, by omega, by omega, by omega⟩)))) (fun pcq53 => (Or.inr (Or.inr (Or.inr ⟨by omega, by omega, by omega, by omega, by omega, by omega, by omega⟩))))))))))) (fun sq58 tq58 Isq58 Itq58 Gsq58 Gtq58   yq58_0 yq58_1 yq58_2 yq58_3 yq58_4 yq58_5 pcq58 lvq58 memq58 hlq58 hRq58 => ?_) _ _ (h_al_ok ⟨rfl, rfl, trivial⟩ hlw57) hRw57)
          · have Fsq58 := (Gsq58.mono (B := k_pl) rfl).tr Fsq53
            have Ftq58 := (Gtq58.mono (B := k_pm) rfl).tr Ftq53
            have Isq58 := Isq58
            have Itq58 := Itq58
            have Gsq58 := Gsq58
            have Gtq58 := Gtq58
            have esq58_6 : sq58 64 1 = σ1 64 1 := (Gsq58 64 1 rfl).trans esq53_6
            rcases pcq58 with pcq58 | pcq58
            · show h_T g_P (g_Y ns) 61 61 [(0, .ref 63)] [] sq58 _
              refine h_vret rfl rfl (d_retn hlv1 ?_)
              refine h_goto (pc' := 150) rfl rfl ?_
              refine h_aload_n (pc' := 151) rfl rfl rfl ?_
              refine h_getI (pc' := 154) (v := sq58 63 2) rfl rfl rfl rfl rfl rfl (fun z59 hz59 => ?_)
              have tz59 := tf_63_2 Isq58
              refine h_zne (tg := 180) (pc' := 157) rfl rfl rfl hz59 (fun c60 => ?_) (fun c60 => absurd c60 (by omega))
              clear hz59
              refine d_toM (g_inj ns) hlq58 hRq58 (fun lvw61 memw61 hlw61 hRw61 => ?_)
              show h_T g_P (g_Y ns) 153 178 [(0, .ref 98)] [] tq58 _
              refine h_vret rfl rfl (d_retn hlv56 ?_)
              refine h_aload_n (pc' := 146) rfl rfl rfl ?_
              refine h_getI (pc' := 149) (v := tq58 98 13) rfl rfl rfl rfl rfl rfl (fun z62 hz62 => ?_)
              have tz62 := tf_98_13 Itq58
              refine h_zne (tg := 165) (pc' := 152) rfl rfl rfl hz62 (fun c63 => ?_) (fun c63 => absurd c63 (by omega))
              clear hz62
              refine d_toL (g_inj ns) hlw61 hRw61 (fun lvw64 memw64 hlw64 hRw64 => ?_)
              show h_T g_P (g_Y ns) 56 180 [(0, .ref 63), (1, .int x1)] [] sq58 _
              exact h_wk [(0, .ref 63)] ⟨rfl, trivial⟩ (kx0 _ _ Isq58 Itq58 Fsq58 Ftq58 (by omega) (by omega) (by omega) (by omega) (by omega) (fun h => absurd h (by omega)) (Or.inl ⟨by omega, by omega, by omega, by omega⟩) _ _ (h_al_ok ⟨rfl, trivial⟩ hlw64) hRw64)
            · show h_T g_P (g_Y ns) 61 61 [(0, .ref 63)] [] sq58 _
              refine h_vret rfl rfl (d_retn hlv1 ?_)
              refine h_goto (pc' := 150) rfl rfl ?_
              refine d_toM (g_inj ns) hlq58 hRq58 (fun lvw65 memw65 hlw65 hRw65 => ?_)
              show h_T g_P (g_Y ns) 153 178 [(0, .ref 98)] [] tq58 _
              refine h_vret rfl rfl (d_retn hlv56 ?_)
              refine d_toL (g_inj ns) hlw65 hRw65 (fun lvw66 memw66 hlw66 hRw66 => ?_)
              show h_T g_P (g_Y ns) 56 150 [(0, .ref 63), (1, .int x1)] [] sq58 _
              refine h_wk [(0, .ref 63)] ⟨rfl, trivial⟩ (ls_sc Isq58 Itq58 (hTL.fr (Fsq58.mono rfl) (Ftq58.mono rfl))   (by omega) (by omega) (by omega) (by omega) (yq58_5) (pcq58.elim (fun pcq58 => (Or.inl ⟨by omega, by omega, by omega, by omega, by omega⟩)) (fun pcq58 => (pcq58.elim (fun pcq58 => (Or.inr (Or.inl ⟨by omega, by omega, by omega, by omega, by omega⟩))) (fun pcq58 => (pcq58.elim (fun pcq58 => (Or.inr (Or.inr (Or.inl ⟨by omega, by omega, by omega, by omega, by omega, by omega, by omega, by omega⟩)))) (fun pcq58 => (Or.inr (Or.inr (Or.inr ⟨by omega, by omega, by omega, by omega, by omega⟩))))))))) (fun sq67 tq67 Isq67 Itq67 Gsq67 Gtq67   yq67_0 yq67_1 yq67_2 yq67_3 yq67_4 yq67_5 pcq67 lvq67 memq67 hlq67 hRq67 => ?_) _ _ (h_al_ok ⟨rfl, trivial⟩ hlw66) hRw66)
              · have Fsq67 := (Gsq67.mono (B := k_pl) rfl).tr Fsq58
                have Ftq67 := (Gtq67.mono (B := k_pm) rfl).tr Ftq58
                have Isq67 := Isq67
                have Itq67 := Itq67
                have Gsq67 := Gsq67
                have Gtq67 := Gtq67
                have esq67_6 : sq67 64 1 = σ1 64 1 := (Gsq67 64 1 rfl).trans esq58_6
                rcases pcq67 with pcq67 | pcq67
                · show h_T g_P (g_Y ns) 56 180 [(0, .ref 63)] [] sq67 _
                  refine d_toM (g_inj ns) hlq67 hRq67 (fun lvw68 memw68 hlw68 hRw68 => ?_)
                  show h_T g_P (g_Y ns) 154 165 [(0, .ref 98)] [] tq67 _
                  refine d_toL (g_inj ns) hlw68 hRw68 (fun lvw69 memw69 hlw69 hRw69 => ?_)
                  show h_T g_P (g_Y ns) 56 180 [(0, .ref 63)] [] sq67 _
                  exact h_wk [(0, .ref 63)] ⟨rfl, trivial⟩ (kx0 _ _ Isq67 Itq67 Fsq67 Ftq67 (by omega) (by omega) (by omega) (by omega) (by omega) (fun h => absurd h (by omega)) (Or.inl ⟨by omega, by omega, by omega, by omega⟩) _ _ (h_al_ok ⟨rfl, trivial⟩ hlw69) hRw69)
                · show h_T g_P (g_Y ns) 56 180 [(0, .ref 63)] [] sq67 _
                  refine d_toM (g_inj ns) hlq67 hRq67 (fun lvw70 memw70 hlw70 hRw70 => ?_)
                  show h_T g_P (g_Y ns) 154 165 [(0, .ref 98)] [] tq67 _
                  refine d_toL (g_inj ns) hlw70 hRw70 (fun lvw71 memw71 hlw71 hRw71 => ?_)
                  show h_T g_P (g_Y ns) 56 180 [(0, .ref 63)] [] sq67 _
                  exact h_wk [(0, .ref 63)] ⟨rfl, trivial⟩ (kx0 _ _ Isq67 Itq67 Fsq67 Ftq67 (by omega) (by omega) (by omega) (by omega) (by omega) (yq67_5) (Or.inr ⟨by omega, by omega, by omega, by omega, by omega, by omega⟩) _ _ (h_al_ok ⟨rfl, trivial⟩ hlw71) hRw71)
        · clear hz54
          refine d_toL (g_inj ns) hlw6 hRq53 (fun lvw72 memw72 hlw72 hRw72 => ?_)
          show h_T g_P (g_Y ns) 57 20 [(0, .ref 63), (1, .int (Int32.ofInt 0))] [] sq53 _
          refine h_vret rfl rfl (d_retn hlv4 ?_)
          refine h_aload_n (pc' := 21) rfl rfl rfl ?_
          refine h_bipush (pc' := 23) (x := (Int32.ofInt 9)) rfl rfl cb_9 ?_
          refine h_call (sp := false) (pc' := 26) (M := [(0, .ref 63), (1, .int (Int32.ofInt 9))]) rfl rfl rfl rfl rfl rfl rfl rfl ?_
          refine h_aload_n (pc' := 1) rfl rfl rfl ?_
          refine h_getI (pc' := 4) (v := sq53 63 2) rfl rfl rfl rfl rfl rfl (fun z73 hz73 => ?_)
          have tz73 := tf_63_2 Isq53
          refine h_zne (tg := 30) (pc' := 7) rfl rfl rfl hz73 (fun c74 => ?_) (fun c74 => absurd c74 (by omega))
          clear hz73
          refine h_aload_n (pc' := 31) rfl rfl rfl ?_
          refine h_getI (pc' := 34) (v := sq53 63 2) rfl rfl rfl rfl rfl rfl (fun z75 hz75 => ?_)
          refine h_zne (tg := 60) (pc' := 37) rfl rfl rfl hz75 (fun c76 => ?_) (fun c76 => absurd c76 (by omega))
          clear hz75
          refine h_aload_n (pc' := 61) rfl rfl rfl ?_
          refine h_getR (pc' := 64) rfl rfl rfl rfl rfl ?_
          refine h_getI (pc' := 67) (v := sq53 64 5) rfl rfl rfl rfl rfl rfl (fun z77 hz77 => ?_)
          have tz77 := tf_64_5 Isq53
          refine h_istore_n (pc' := 68) (M := [(2, .int z77), (0, .ref 63), (1, .int (Int32.ofInt 9))]) rfl rfl rfl rfl ?_
          refine h_aload_n (pc' := 69) rfl rfl rfl ?_
          refine h_call (sp := false) (pc' := 72) (M := [(0, .ref 63)]) rfl rfl rfl rfl rfl rfl rfl rfl ?_
          refine h_aload_n (pc' := 1) rfl rfl rfl ?_
          refine h_getI (pc' := 4) (v := sq53 63 2) rfl rfl rfl rfl rfl rfl (fun z78 hz78 => ?_)
          refine h_zne (tg := 37) (pc' := 7) rfl rfl rfl hz78 (fun c79 => ?_) (fun c79 => absurd c79 (by omega))
          clear hz78
          refine h_vret rfl rfl (h_Kn ?_)
          refine h_iload_n (pc' := 73) rfl rfl rfl ?_
          refine h_iret rfl rfl (h_Kv ?_)
          refine h_istore_n (pc' := 27) (M := [(1, .int z77), (0, .ref 63)]) rfl rfl rfl rfl ?_
          refine h_aload_n (pc' := 28) rfl rfl rfl ?_
          refine h_call (sp := false) (pc' := 31) (M := [(0, .ref 63)]) rfl rfl rfl rfl rfl rfl rfl rfl ?_
          refine h_aload_n (pc' := 1) rfl rfl rfl ?_
          refine h_getI (pc' := 4) (v := sq53 63 2) rfl rfl rfl rfl rfl rfl (fun z80 hz80 => ?_)
          refine h_zne (tg := 22) (pc' := 7) rfl rfl rfl hz80 (fun c81 => ?_) (fun c81 => absurd c81 (by omega))
          clear hz80
          refine h_iconst (pc' := 23) (x := (Int32.ofInt 0)) rfl rfl rfl ?_
          refine h_zret rfl rfl ci_0 (by omega) (h_Kv ?_)
          refine h_zeq (tg := 42) (pc' := 34) rfl rfl rfl ci_0 (fun c82 => ?_) (fun c82 => absurd c82 (by omega))
          refine h_bipush (pc' := 44) (x := (Int32.ofInt (-4))) rfl rfl cb_m4 ?_
          refine h_istore_n (pc' := 45) (M := [(2, .int (Int32.ofInt (-4))), (1, .int z77), (0, .ref 63)]) rfl rfl rfl rfl ?_
          refine h_aload_n (pc' := 46) rfl rfl rfl ?_
          refine h_getI (pc' := 49) (v := sq53 63 2) rfl rfl rfl rfl rfl rfl (fun z83 hz83 => ?_)
          refine h_zne (tg := 61) (pc' := 52) rfl rfl rfl hz83 (fun c84 => ?_) (fun c84 => absurd c84 (by omega))
          clear hz83
          refine h_vret rfl rfl (d_retn hlv1 ?_)
          clear hz77
          refine h_goto (pc' := 150) rfl rfl ?_
          refine h_aload_n (pc' := 151) rfl rfl rfl ?_
          refine h_getI (pc' := 154) (v := sq53 63 2) rfl rfl rfl rfl rfl rfl (fun z85 hz85 => ?_)
          refine h_zne (tg := 180) (pc' := 157) rfl rfl rfl hz85 (fun c86 => ?_) (fun c86 => absurd c86 (by omega))
          clear hz85
          exact h_wk [(0, .ref 63)] ⟨rfl, trivial⟩ (kx1 _ _ Isq53 Itq53 Fsq53 Ftq53 (by omega) (by omega) (by omega) (by omega) (by omega) (pcq53.elim (fun pcq53 => ⟨by omega, by omega, by omega, by omega⟩) (fun pcq53 => (pcq53.elim (fun pcq53 => (by exfalso; omega)) (fun pcq53 => (pcq53.elim (fun pcq53 => (by exfalso; omega)) (fun pcq53 => (pcq53.elim (fun pcq53 => (by exfalso; omega)) (fun pcq53 => (by exfalso; omega))))))))) _ _ (h_al_ok ⟨rfl, trivial⟩ hlw72) hRw72)
    · clear hz2
      refine h_iconst (pc' := 13) (x := (Int32.ofInt 1)) rfl rfl rfl ?_
      refine h_goto (pc' := 17) rfl rfl ?_
      refine d_call (g_inj ns) (pc' := 20) (m := 57) (M := [(0, .ref 63), (1, .int (Int32.ofInt 1))]) (rest := []) ⟨false, _, _, _, _, _, _, rfl, rfl, rfl, rfl, rfl, rfl, rfl⟩ (fun lv87 hlv87 => ?_)
      refine h_iload_n (pc' := 1) rfl rfl rfl ?_
      refine h_zeq (tg := 16) (pc' := 4) rfl rfl rfl ci_1 (fun c88 => absurd c88 (by omega)) (fun c88 => ?_)
      refine h_aload_n (pc' := 5) rfl rfl rfl ?_
      refine h_iconst (pc' := 6) (x := (Int32.ofInt 5)) rfl rfl rfl ?_
      refine h_aload_n (pc' := 7) rfl rfl rfl ?_
      refine h_getR (pc' := 10) rfl rfl rfl rfl rfl ?_
      refine h_getI (pc' := 13) (v := σ1 64 4) rfl rfl rfl rfl rfl rfl (fun z89 hz89 => ?_)
      have tz89 := tf_64_4 hI1
      refine h_call (sp := false) (pc' := 16) (M := [(0, .ref 63), (1, .int (Int32.ofInt 5)), (2, .int z89)]) rfl rfl rfl rfl rfl rfl rfl rfl ?_
      refine h_aload_n (pc' := 1) rfl rfl rfl ?_
      refine h_getI (pc' := 4) (v := σ1 63 2) rfl rfl rfl rfl rfl rfl (fun z90 hz90 => ?_)
      have tz90 := tf_63_2 hI1
      refine h_zne (tg := 17) (pc' := 7) rfl rfl rfl hz90 (fun c91 => absurd c91 (by omega)) (fun c91 => ?_)
      clear hz90
      refine h_aload_n (pc' := 8) rfl rfl rfl ?_
      refine h_iload_n (pc' := 9) rfl rfl rfl ?_
      refine h_put (pc' := 12) rfl rfl rfl rfl rfl rfl ci_5 rfl (h_fgt (E := fun s => s 64 2 = σ1 64 2 ∧ s 64 4 = σ1 64 4 ∧ s 64 3 = σ1 64 3 ∧ s 64 5 = σ1 64 5 ∧ s 63 2 = 5 ∧ s 63 3 = σ1 63 3 ∧ s 64 1 = σ1 64 1 ∧ s 66 8 = σ1 66 8 ∧ s 66 9 = σ1 66 9 ∧ s 66 10 = σ1 66 10 ∧ s 69 2 = σ1 69 2 ∧ s 72 2 = σ1 72 2 ∧ s 63 5 = σ1 63 5 ∧ s = h_up σ1 63 2 5) _ (if_63_2 hI1 (by omega)) (F1.up rfl) ⟨rfl, rfl, rfl, rfl, rfl, rfl, rfl, rfl, rfl, rfl, rfl, rfl, rfl, rfl⟩ (fun s92 Is92 Fs92 (es92 : s92 64 2 = σ1 64 2 ∧ s92 64 4 = σ1 64 4 ∧ s92 64 3 = σ1 64 3 ∧ s92 64 5 = σ1 64 5 ∧ s92 63 2 = 5 ∧ s92 63 3 = σ1 63 3 ∧ s92 64 1 = σ1 64 1 ∧ s92 66 8 = σ1 66 8 ∧ s92 66 9 = σ1 66 9 ∧ s92 66 10 = σ1 66 10 ∧ s92 69 2 = σ1 69 2 ∧ s92 72 2 = σ1 72 2 ∧ s92 63 5 = σ1 63 5 ∧ s92 = h_up σ1 63 2 5) => ?_))
      refine h_aload_n (pc' := 13) rfl rfl rfl ?_
      refine h_iload_n (pc' := 14) rfl rfl rfl ?_
      refine h_put (pc' := 17) rfl rfl rfl rfl rfl rfl hz89 rfl (h_fgt (E := fun s => s 64 2 = σ1 64 2 ∧ s 64 4 = σ1 64 4 ∧ s 64 3 = σ1 64 3 ∧ s 64 5 = σ1 64 5 ∧ s 63 2 = 5 ∧ s 63 3 = (σ1 64 4) ∧ s 64 1 = σ1 64 1 ∧ s 66 8 = σ1 66 8 ∧ s 66 9 = σ1 66 9 ∧ s 66 10 = σ1 66 10 ∧ s 69 2 = σ1 69 2 ∧ s 72 2 = σ1 72 2 ∧ s 63 5 = σ1 63 5 ∧ s = h_up s92 63 3 (σ1 64 4)) _ (if_63_3 Is92 (h_rgv hz89)) (Fs92.up rfl) ⟨es92.1, es92.2.1, es92.2.2.1, es92.2.2.2.1, es92.2.2.2.2.1, rfl, es92.2.2.2.2.2.2.1, es92.2.2.2.2.2.2.2.1, es92.2.2.2.2.2.2.2.2.1, es92.2.2.2.2.2.2.2.2.2.1, es92.2.2.2.2.2.2.2.2.2.2.1, es92.2.2.2.2.2.2.2.2.2.2.2.1, es92.2.2.2.2.2.2.2.2.2.2.2.2.1, rfl⟩ (fun s93 Is93 Fs93 (es93 : s93 64 2 = σ1 64 2 ∧ s93 64 4 = σ1 64 4 ∧ s93 64 3 = σ1 64 3 ∧ s93 64 5 = σ1 64 5 ∧ s93 63 2 = 5 ∧ s93 63 3 = (σ1 64 4) ∧ s93 64 1 = σ1 64 1 ∧ s93 66 8 = σ1 66 8 ∧ s93 66 9 = σ1 66 9 ∧ s93 66 10 = σ1 66 10 ∧ s93 69 2 = σ1 69 2 ∧ s93 72 2 = σ1 72 2 ∧ s93 63 5 = σ1 63 5 ∧ s93 = h_up s92 63 3 (σ1 64 4)) => ?_))
      refine h_vret rfl rfl (h_Kn ?_)
      refine h_aload_n (pc' := 17) rfl rfl rfl ?_
      refine h_call (sp := false) (pc' := 20) (M := [(0, .ref 63)]) rfl rfl rfl rfl rfl rfl rfl rfl ?_
      refine h_aload_n (pc' := 1) rfl rfl rfl ?_
      refine h_getI (pc' := 4) (v := 5) rfl rfl rfl rfl rfl es93.2.2.2.2.1 (fun z94 hz94 => ?_)
      refine h_zne (tg := 37) (pc' := 7) rfl rfl rfl hz94 (fun c95 => ?_) (fun c95 => absurd c95 (by omega))
      clear hz94
      refine h_vret rfl rfl (h_Kn ?_)
      refine h_vret rfl rfl (d_retn hlv87 ?_)
      refine h_aload_n (pc' := 21) rfl rfl rfl ?_
      refine h_bipush (pc' := 23) (x := (Int32.ofInt 9)) rfl rfl cb_9 ?_
      refine h_call (sp := false) (pc' := 26) (M := [(0, .ref 63), (1, .int (Int32.ofInt 9))]) rfl rfl rfl rfl rfl rfl rfl rfl ?_
      refine h_aload_n (pc' := 1) rfl rfl rfl ?_
      refine h_getI (pc' := 4) (v := 5) rfl rfl rfl rfl rfl es93.2.2.2.2.1 (fun z96 hz96 => ?_)
      refine h_zne (tg := 30) (pc' := 7) rfl rfl rfl hz96 (fun c97 => ?_) (fun c97 => absurd c97 (by omega))
      clear hz96
      refine h_aload_n (pc' := 31) rfl rfl rfl ?_
      refine h_getI (pc' := 34) (v := 5) rfl rfl rfl rfl rfl es93.2.2.2.2.1 (fun z98 hz98 => ?_)
      refine h_zne (tg := 60) (pc' := 37) rfl rfl rfl hz98 (fun c99 => ?_) (fun c99 => absurd c99 (by omega))
      clear hz98
      refine h_aload_n (pc' := 61) rfl rfl rfl ?_
      refine h_getR (pc' := 64) rfl rfl rfl rfl rfl ?_
      refine h_getI (pc' := 67) (v := σ1 64 5) rfl rfl rfl rfl rfl es93.2.2.2.1 (fun z100 hz100 => ?_)
      have tz100 := tf_64_5 hI1
      refine h_istore_n (pc' := 68) (M := [(2, .int z100), (0, .ref 63), (1, .int (Int32.ofInt 9))]) rfl rfl rfl rfl ?_
      refine h_aload_n (pc' := 69) rfl rfl rfl ?_
      refine h_call (sp := false) (pc' := 72) (M := [(0, .ref 63)]) rfl rfl rfl rfl rfl rfl rfl rfl ?_
      refine h_aload_n (pc' := 1) rfl rfl rfl ?_
      refine h_getI (pc' := 4) (v := 5) rfl rfl rfl rfl rfl es93.2.2.2.2.1 (fun z101 hz101 => ?_)
      refine h_zne (tg := 37) (pc' := 7) rfl rfl rfl hz101 (fun c102 => ?_) (fun c102 => absurd c102 (by omega))
      clear hz101
      refine h_vret rfl rfl (h_Kn ?_)
      refine h_iload_n (pc' := 73) rfl rfl rfl ?_
      refine h_iret rfl rfl (h_Kv ?_)
      refine h_istore_n (pc' := 27) (M := [(1, .int z100), (0, .ref 63)]) rfl rfl rfl rfl ?_
      refine h_aload_n (pc' := 28) rfl rfl rfl ?_
      refine h_call (sp := false) (pc' := 31) (M := [(0, .ref 63)]) rfl rfl rfl rfl rfl rfl rfl rfl ?_
      refine h_aload_n (pc' := 1) rfl rfl rfl ?_
      refine h_getI (pc' := 4) (v := 5) rfl rfl rfl rfl rfl es93.2.2.2.2.1 (fun z103 hz103 => ?_)
      refine h_zne (tg := 22) (pc' := 7) rfl rfl rfl hz103 (fun c104 => ?_) (fun c104 => absurd c104 (by omega))
      clear hz103
      refine h_iconst (pc' := 23) (x := (Int32.ofInt 0)) rfl rfl rfl ?_
      refine h_zret rfl rfl ci_0 (by omega) (h_Kv ?_)
      refine h_zeq (tg := 42) (pc' := 34) rfl rfl rfl ci_0 (fun c105 => ?_) (fun c105 => absurd c105 (by omega))
      refine h_bipush (pc' := 44) (x := (Int32.ofInt (-4))) rfl rfl cb_m4 ?_
      refine h_istore_n (pc' := 45) (M := [(2, .int (Int32.ofInt (-4))), (1, .int z100), (0, .ref 63)]) rfl rfl rfl rfl ?_
      refine h_aload_n (pc' := 46) rfl rfl rfl ?_
      refine h_getI (pc' := 49) (v := 5) rfl rfl rfl rfl rfl es93.2.2.2.2.1 (fun z106 hz106 => ?_)
      refine h_zne (tg := 61) (pc' := 52) rfl rfl rfl hz106 (fun c107 => ?_) (fun c107 => absurd c107 (by omega))
      clear hz106
      refine h_vret rfl rfl (d_retn hlv1 ?_)
      clear hz100
      refine h_goto (pc' := 150) rfl rfl ?_
      refine h_aload_n (pc' := 151) rfl rfl rfl ?_
      refine h_getI (pc' := 154) (v := 5) rfl rfl rfl rfl rfl es93.2.2.2.2.1 (fun z108 hz108 => ?_)
      refine h_zne (tg := 180) (pc' := 157) rfl rfl rfl hz108 (fun c109 => ?_) (fun c109 => absurd c109 (by omega))
      clear hz108
      refine d_toM (g_inj ns) hl2 hR2 (fun lvw110 memw110 hlw110 hRw110 => ?_)
      show h_T g_P (g_Y ns) 154 23 [(0, .ref 98), (1, .int y1)] [] σ2 _
      refine h_iload_n (pc' := 24) rfl rfl rfl ?_
      refine h_iconst (pc' := 25) (x := (Int32.ofInt 3)) rfl rfl rfl ?_
      refine h_cgt (tg := 37) (pc' := 28) rfl rfl rfl hy1 ci_3 (fun c111 => ?_) (fun c111 => absurd c111 (by omega))
      refine h_iload_n (pc' := 38) rfl rfl rfl ?_
      refine h_iconst (pc' := 39) (x := (Int32.ofInt 4)) rfl rfl rfl ?_
      refine h_cne (tg := 53) (pc' := 42) rfl rfl rfl hy1 ci_4 (fun c112 => ?_) (fun c112 => absurd c112 (by omega))
      refine h_iload_n (pc' := 54) rfl rfl rfl ?_
      refine h_iconst (pc' := 55) (x := (Int32.ofInt 5)) rfl rfl rfl ?_
      refine h_cne (tg := 69) (pc' := 58) rfl rfl rfl hy1 ci_5 (fun c113 => ?_) (fun c113 => absurd c113 (by omega))
      refine h_iload_n (pc' := 70) rfl rfl rfl ?_
      refine h_bipush (pc' := 72) (x := (Int32.ofInt 6)) rfl rfl cb_6 ?_
      refine h_cne (tg := 88) (pc' := 75) rfl rfl rfl hy1 ci_6 (fun c114 => absurd c114 (by omega)) (fun c114 => ?_)
      refine h_aload_n (pc' := 76) rfl rfl rfl ?_
      refine h_getI (pc' := 79) (v := σ2 98 6) rfl rfl rfl rfl rfl rfl (fun z115 hz115 => ?_)
      have tz115 := tf_98_6 hI2
      refine h_iconst (pc' := 80) (x := (Int32.ofInt 3)) rfl rfl rfl ?_
      refine h_cne (tg := 88) (pc' := 83) rfl rfl rfl hz115 ci_3 (fun c116 => absurd c116 (by omega)) (fun c116 => ?_)
      clear hz115
      refine h_aload_n (pc' := 84) rfl rfl rfl ?_
      refine h_iconst (pc' := 85) (x := (Int32.ofInt 5)) rfl rfl rfl ?_
      refine h_call (sp := false) (pc' := 88) (M := [(0, .ref 98), (1, .int (Int32.ofInt 5))]) rfl rfl rfl rfl rfl rfl rfl rfl ?_
      refine h_aload_n (pc' := 1) rfl rfl rfl ?_
      refine h_getI (pc' := 4) (v := σ2 98 13) rfl rfl rfl rfl rfl rfl (fun z117 hz117 => ?_)
      have tz117 := tf_98_13 hI2
      refine h_zne (tg := 20) (pc' := 7) rfl rfl rfl hz117 (fun c118 => absurd c118 (by omega)) (fun c118 => ?_)
      clear hz117
      refine h_aload_n (pc' := 8) rfl rfl rfl ?_
      refine h_iload_n (pc' := 9) rfl rfl rfl ?_
      refine h_put (pc' := 12) rfl rfl rfl rfl rfl rfl ci_5 rfl (h_fgt (E := fun s => s 98 15 = σ2 98 15 ∧ s 98 16 = σ2 98 16 ∧ s 98 17 = σ2 98 17 ∧ s 98 18 = σ2 98 18 ∧ s 98 13 = 5 ∧ s 98 14 = σ2 98 14 ∧ s 98 5 = σ2 98 5 ∧ s 98 6 = σ2 98 6 ∧ s 98 7 = σ2 98 7 ∧ s 98 8 = σ2 98 8 ∧ s 98 9 = σ2 98 9 ∧ s 101 18 = σ2 101 18 ∧ s 101 25 = σ2 101 25 ∧ s 101 43 = σ2 101 43 ∧ s = h_up σ2 98 13 5) _ (if_98_13 hI2 (by omega)) (F2.up rfl) ⟨rfl, rfl, rfl, rfl, rfl, rfl, rfl, rfl, rfl, rfl, rfl, rfl, rfl, rfl, rfl⟩ (fun s119 Is119 Fs119 (es119 : s119 98 15 = σ2 98 15 ∧ s119 98 16 = σ2 98 16 ∧ s119 98 17 = σ2 98 17 ∧ s119 98 18 = σ2 98 18 ∧ s119 98 13 = 5 ∧ s119 98 14 = σ2 98 14 ∧ s119 98 5 = σ2 98 5 ∧ s119 98 6 = σ2 98 6 ∧ s119 98 7 = σ2 98 7 ∧ s119 98 8 = σ2 98 8 ∧ s119 98 9 = σ2 98 9 ∧ s119 101 18 = σ2 101 18 ∧ s119 101 25 = σ2 101 25 ∧ s119 101 43 = σ2 101 43 ∧ s119 = h_up σ2 98 13 5) => ?_))
      refine h_aload_n (pc' := 13) rfl rfl rfl ?_
      refine h_aload_n (pc' := 14) rfl rfl rfl ?_
      refine h_getI (pc' := 17) (v := σ2 98 16) rfl rfl rfl rfl rfl es119.2.1 (fun z120 hz120 => ?_)
      have tz120 := tf_98_16 hI2
      refine h_put (pc' := 20) rfl rfl rfl rfl rfl rfl hz120 rfl (h_fgt (E := fun s => s 98 15 = σ2 98 15 ∧ s 98 16 = σ2 98 16 ∧ s 98 17 = σ2 98 17 ∧ s 98 18 = σ2 98 18 ∧ s 98 13 = 5 ∧ s 98 14 = (σ2 98 16) ∧ s 98 5 = σ2 98 5 ∧ s 98 6 = σ2 98 6 ∧ s 98 7 = σ2 98 7 ∧ s 98 8 = σ2 98 8 ∧ s 98 9 = σ2 98 9 ∧ s 101 18 = σ2 101 18 ∧ s 101 25 = σ2 101 25 ∧ s 101 43 = σ2 101 43 ∧ s = h_up s119 98 14 (σ2 98 16)) _ (if_98_14 Is119 (h_rgv hz120)) (Fs119.up rfl) ⟨es119.1, es119.2.1, es119.2.2.1, es119.2.2.2.1, es119.2.2.2.2.1, rfl, es119.2.2.2.2.2.2.1, es119.2.2.2.2.2.2.2.1, es119.2.2.2.2.2.2.2.2.1, es119.2.2.2.2.2.2.2.2.2.1, es119.2.2.2.2.2.2.2.2.2.2.1, es119.2.2.2.2.2.2.2.2.2.2.2.1, es119.2.2.2.2.2.2.2.2.2.2.2.2.1, es119.2.2.2.2.2.2.2.2.2.2.2.2.2.1, rfl⟩ (fun s121 Is121 Fs121 (es121 : s121 98 15 = σ2 98 15 ∧ s121 98 16 = σ2 98 16 ∧ s121 98 17 = σ2 98 17 ∧ s121 98 18 = σ2 98 18 ∧ s121 98 13 = 5 ∧ s121 98 14 = (σ2 98 16) ∧ s121 98 5 = σ2 98 5 ∧ s121 98 6 = σ2 98 6 ∧ s121 98 7 = σ2 98 7 ∧ s121 98 8 = σ2 98 8 ∧ s121 98 9 = σ2 98 9 ∧ s121 101 18 = σ2 101 18 ∧ s121 101 25 = σ2 101 25 ∧ s121 101 43 = σ2 101 43 ∧ s121 = h_up s119 98 14 (σ2 98 16)) => ?_))
      refine h_vret rfl rfl (h_Kn ?_)
      refine h_iload_n (pc' := 89) rfl rfl rfl ?_
      refine h_bipush (pc' := 91) (x := (Int32.ofInt 7)) rfl rfl cb_7 ?_
      refine h_cne (tg := 106) (pc' := 94) rfl rfl rfl hy1 ci_7 (fun c122 => ?_) (fun c122 => absurd c122 (by omega))
      refine h_aload_n (pc' := 107) rfl rfl rfl ?_
      refine h_aload_n (pc' := 108) rfl rfl rfl ?_
      refine h_getI (pc' := 111) (v := σ2 98 7) rfl rfl rfl rfl rfl es121.2.2.2.2.2.2.2.2.1 (fun z123 hz123 => ?_)
      have tz123 := tf_98_7 hI2
      refine h_zne (tg := 120) (pc' := 114) rfl rfl rfl hz123 (fun c124 => ?_) (fun c124 => ?_)
      · clear hz123
        refine h_iconst (pc' := 121) (x := (Int32.ofInt 1)) rfl rfl rfl ?_
        refine h_goto (pc' := 125) rfl rfl ?_
        refine h_put (pc' := 128) rfl rfl rfl rfl rfl rfl ci_1 (h_fb ci_1 (by omega)) (h_fgt (E := fun s => s 98 15 = σ2 98 15 ∧ s 98 16 = σ2 98 16 ∧ s 98 17 = σ2 98 17 ∧ s 98 18 = σ2 98 18 ∧ s 98 13 = 5 ∧ s 98 14 = (σ2 98 16) ∧ s 98 5 = σ2 98 5 ∧ s 98 6 = σ2 98 6 ∧ s 98 7 = 1 ∧ s 98 8 = σ2 98 8 ∧ s 98 9 = σ2 98 9 ∧ s 101 18 = σ2 101 18 ∧ s 101 25 = σ2 101 25 ∧ s 101 43 = σ2 101 43 ∧ s = h_up s121 98 7 1) _ (if_98_7 Is121 (by omega)) (Fs121.up rfl) ⟨es121.1, es121.2.1, es121.2.2.1, es121.2.2.2.1, es121.2.2.2.2.1, es121.2.2.2.2.2.1, es121.2.2.2.2.2.2.1, es121.2.2.2.2.2.2.2.1, rfl, es121.2.2.2.2.2.2.2.2.2.1, es121.2.2.2.2.2.2.2.2.2.2.1, es121.2.2.2.2.2.2.2.2.2.2.2.1, es121.2.2.2.2.2.2.2.2.2.2.2.2.1, es121.2.2.2.2.2.2.2.2.2.2.2.2.2.1, rfl⟩ (fun s125 Is125 Fs125 (es125 : s125 98 15 = σ2 98 15 ∧ s125 98 16 = σ2 98 16 ∧ s125 98 17 = σ2 98 17 ∧ s125 98 18 = σ2 98 18 ∧ s125 98 13 = 5 ∧ s125 98 14 = (σ2 98 16) ∧ s125 98 5 = σ2 98 5 ∧ s125 98 6 = σ2 98 6 ∧ s125 98 7 = 1 ∧ s125 98 8 = σ2 98 8 ∧ s125 98 9 = σ2 98 9 ∧ s125 101 18 = σ2 101 18 ∧ s125 101 25 = σ2 101 25 ∧ s125 101 43 = σ2 101 43 ∧ s125 = h_up s121 98 7 1) => ?_))
        refine h_aload_n (pc' := 129) rfl rfl rfl ?_
        refine h_call (sp := false) (pc' := 132) (M := [(0, .ref 98)]) rfl rfl rfl rfl rfl rfl rfl rfl ?_
        refine h_aload_n (pc' := 1) rfl rfl rfl ?_
        refine h_getI (pc' := 4) (v := 5) rfl rfl rfl rfl rfl es125.2.2.2.2.1 (fun z126 hz126 => ?_)
        refine h_zle (tg := 8) (pc' := 7) rfl rfl rfl hz126 (fun c127 => absurd c127 (by omega)) (fun c127 => ?_)
        clear hz126
        refine h_vret rfl rfl (h_Kn ?_)
        refine h_aload_n (pc' := 133) rfl rfl rfl ?_
        refine h_getI (pc' := 136) (v := 5) rfl rfl rfl rfl rfl es125.2.2.2.2.1 (fun z128 hz128 => ?_)
        refine h_zle (tg := 140) (pc' := 139) rfl rfl rfl hz128 (fun c129 => absurd c129 (by omega)) (fun c129 => ?_)
        clear hz128
        refine d_toL (g_inj ns) hlw110 hRw110 (fun lvw130 memw130 hlw130 hRw130 => ?_)
        show h_T g_P (g_Y ns) 56 180 [(0, .ref 63), (1, .int x1)] [] s93 _
        exact h_wk [(0, .ref 63)] ⟨rfl, trivial⟩ (kx1 _ _ Is93 Is125 Fs93 Fs125 (by omega) (by omega) (by omega) (by omega) (by omega) ⟨by omega, by omega, by omega, by omega⟩ _ _ (h_al_ok ⟨rfl, trivial⟩ hlw130) hRw130)
      · clear hz123
        refine h_iload_n (pc' := 115) rfl rfl rfl ?_
        refine h_bipush (pc' := 117) (x := (Int32.ofInt 7)) rfl rfl cb_7 ?_
        refine h_cne (tg := 124) (pc' := 120) rfl rfl rfl hy1 ci_7 (fun c131 => ?_) (fun c131 => absurd c131 (by omega))
        refine h_iconst (pc' := 125) (x := (Int32.ofInt 0)) rfl rfl rfl ?_
        refine h_put (pc' := 128) rfl rfl rfl rfl rfl rfl ci_0 (h_fb ci_0 (by omega)) (h_fgt (E := fun s => s 98 15 = σ2 98 15 ∧ s 98 16 = σ2 98 16 ∧ s 98 17 = σ2 98 17 ∧ s 98 18 = σ2 98 18 ∧ s 98 13 = 5 ∧ s 98 14 = (σ2 98 16) ∧ s 98 5 = σ2 98 5 ∧ s 98 6 = σ2 98 6 ∧ s 98 7 = 0 ∧ s 98 8 = σ2 98 8 ∧ s 98 9 = σ2 98 9 ∧ s 101 18 = σ2 101 18 ∧ s 101 25 = σ2 101 25 ∧ s 101 43 = σ2 101 43 ∧ s = h_up s121 98 7 0) _ (if_98_7 Is121 (by omega)) (Fs121.up rfl) ⟨es121.1, es121.2.1, es121.2.2.1, es121.2.2.2.1, es121.2.2.2.2.1, es121.2.2.2.2.2.1, es121.2.2.2.2.2.2.1, es121.2.2.2.2.2.2.2.1, rfl, es121.2.2.2.2.2.2.2.2.2.1, es121.2.2.2.2.2.2.2.2.2.2.1, es121.2.2.2.2.2.2.2.2.2.2.2.1, es121.2.2.2.2.2.2.2.2.2.2.2.2.1, es121.2.2.2.2.2.2.2.2.2.2.2.2.2.1, rfl⟩ (fun s132 Is132 Fs132 (es132 : s132 98 15 = σ2 98 15 ∧ s132 98 16 = σ2 98 16 ∧ s132 98 17 = σ2 98 17 ∧ s132 98 18 = σ2 98 18 ∧ s132 98 13 = 5 ∧ s132 98 14 = (σ2 98 16) ∧ s132 98 5 = σ2 98 5 ∧ s132 98 6 = σ2 98 6 ∧ s132 98 7 = 0 ∧ s132 98 8 = σ2 98 8 ∧ s132 98 9 = σ2 98 9 ∧ s132 101 18 = σ2 101 18 ∧ s132 101 25 = σ2 101 25 ∧ s132 101 43 = σ2 101 43 ∧ s132 = h_up s121 98 7 0) => ?_))
        refine h_aload_n (pc' := 129) rfl rfl rfl ?_
        refine h_call (sp := false) (pc' := 132) (M := [(0, .ref 98)]) rfl rfl rfl rfl rfl rfl rfl rfl ?_
        refine h_aload_n (pc' := 1) rfl rfl rfl ?_
        refine h_getI (pc' := 4) (v := 5) rfl rfl rfl rfl rfl es132.2.2.2.2.1 (fun z133 hz133 => ?_)
        refine h_zle (tg := 8) (pc' := 7) rfl rfl rfl hz133 (fun c134 => absurd c134 (by omega)) (fun c134 => ?_)
        clear hz133
        refine h_vret rfl rfl (h_Kn ?_)
        refine h_aload_n (pc' := 133) rfl rfl rfl ?_
        refine h_getI (pc' := 136) (v := 5) rfl rfl rfl rfl rfl es132.2.2.2.2.1 (fun z135 hz135 => ?_)
        refine h_zle (tg := 140) (pc' := 139) rfl rfl rfl hz135 (fun c136 => absurd c136 (by omega)) (fun c136 => ?_)
        clear hz135
        refine d_toL (g_inj ns) hlw110 hRw110 (fun lvw137 memw137 hlw137 hRw137 => ?_)
        show h_T g_P (g_Y ns) 56 180 [(0, .ref 63), (1, .int x1)] [] s93 _
        exact h_wk [(0, .ref 63)] ⟨rfl, trivial⟩ (kx1 _ _ Is93 Is132 Fs93 Fs132 (by omega) (by omega) (by omega) (by omega) (by omega) ⟨by omega, by omega, by omega, by omega⟩ _ _ (h_al_ok ⟨rfl, trivial⟩ hlw137) hRw137)
