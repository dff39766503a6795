set_option maxHeartbeats 100000000 in
theorem ls_ln {ns : Nat} {σ1 σ2 : h_S} (hI1 : h_I σ1) (hI2 : h_I σ2) (hTL : d_tape σ1 σ2) (x1 : Int32) (a1 : Int) (hx1 : x1.toInt = a1) (y1 : Int32) (c1 : Int) (hy1 : y1.toInt = c1) (pr0 : σ1 64 2 = σ2 98 15) (pr1 : σ1 64 4 = σ2 98 16) (pr2 : σ1 63 2 = σ2 98 13) (pr3 : σ1 66 8 = σ2 98 5) (pr4 : σ1 66 9 = σ2 98 6) (pr5 : σ1 66 10 = σ2 101 43) (pr6 : σ1 69 2 = σ2 101 18) (pr7 : σ1 72 2 = σ2 101 25) (pr8 : σ1 63 5 = σ2 98 7) (pr9 : σ1 64 2 ≤ σ1 64 1) (pr10 : d_RD σ1 σ2) (pr11 : a1 = c1) (pr12 : -4 ≤ a1 ∧ a1 ≤ 7) (pc0 : ((σ1 63 2 = 0) ∧ (σ2 98 13 = 0))) {cs1 cs2 : List d_Fr} {Q : d_Q} (kx0 : ∀ (s t : h_S), h_I s → h_I t → h_F (k_in k_pl) s σ1 → h_F (k_in k_pm) t σ2 → (s 64 2 = t 98 15) → (s 64 4 = t 98 16) → (s 63 2 = t 98 13) → (s 64 2 ≤ s 64 1) → (σ1 64 2 ≤ s 64 2) → (d_ok s t) → (((1 ≤ s 63 2 ∧ s 63 2 ≤ 6) ∧ (1 ≤ t 98 13 ∧ t 98 13 ≤ 6) ∧ (s 63 2 = t 98 13) ∧ (s 63 3 = t 98 14)) ∨ ((s 63 2 = 0) ∧ (s 64 3 = 3) ∧ (t 98 13 = 0) ∧ (t 98 17 = 3) ∧ (s 64 4 < s 64 2) ∧ (σ1 64 2 < s 64 2))) → ∀ lv2 mem2, h_loc [(0, .ref 98)] lv2 → h_R (g_Y ns) t mem2 → h_T g_P (g_Y ns) 56 180 [(0, .ref 63)] [] s (d_cs g_P (g_Y ns) cs1 (d_L g_P (g_Y ns) (154, 165, lv2, []) cs2 mem2 Q))) (kx1 : ∀ (s t : h_S), h_I s → h_I t → h_F (k_in k_pl) s σ1 → h_F (k_in k_pm) t σ2 → (s 64 2 = t 98 15) → (s 64 4 = t 98 16) → (s 63 2 = t 98 13) → (s 64 2 ≤ s 64 1) → (σ1 64 2 ≤ s 64 2) → (((1 ≤ s 63 2 ∧ s 63 2 ≤ 6) ∧ (1 ≤ t 98 13 ∧ t 98 13 ≤ 6) ∧ (s 63 2 = t 98 13) ∧ (s 63 3 = t 98 14))) → ∀ lv2 mem2, h_loc [(0, .ref 98)] lv2 → h_R (g_Y ns) t mem2 → h_T g_P (g_Y ns) 56 180 [(0, .ref 63)] [] s (d_cs g_P (g_Y ns) cs1 (d_L g_P (g_Y ns) (154, 139, lv2, []) cs2 mem2 Q))) (kx2 : ∀ (s t : h_S), h_I s → h_I t → h_F (k_in k_pl) s σ1 → h_F (k_in k_pm) t σ2 → (s 64 2 = t 98 15) → (s 64 4 = t 98 16) → (s 63 2 = t 98 13) → (s 64 2 ≤ s 64 1) → (σ1 64 2 ≤ s 64 2) → (((1 ≤ s 63 2 ∧ s 63 2 ≤ 6) ∧ (1 ≤ t 98 13 ∧ t 98 13 ≤ 6) ∧ (s 63 2 = t 98 13) ∧ (s 63 3 = t 98 14))) → ∀ lv2 mem2, h_loc [(0, .ref 98)] lv2 → h_R (g_Y ns) t mem2 → h_T g_P (g_Y ns) 56 180 [(0, .ref 63)] [] s (d_cs g_P (g_Y ns) cs1 (d_L g_P (g_Y ns) (154, 22, lv2, []) cs2 mem2 Q))) : ∀ lv2 mem2, h_loc [(0, .ref 98), (1, .int y1)] lv2 → h_R (g_Y ns) σ2 mem2 → h_T g_P (g_Y ns) 56 24 [(0, .ref 63), (1, .int x1)] [] σ1 (d_cs g_P (g_Y ns) cs1 (d_L g_P (g_Y ns) (154, 5, lv2, []) cs2 mem2 Q)) := by
  intro lv2 mem2 hl2 hR2
  have hT := hTL.1
  have hL := hTL.2
  have F1 : h_F (k_in k_pl) σ1 σ1 := h_F.rf
  have F2 : h_F (k_in k_pm) σ2 σ2 := h_F.rf
  have ge0 := tf_64_1 hI1
  have ge1 := tf_66_8 hI1
  have ge2 := tf_66_9 hI1
  have ge3 := tf_66_10 hI1
  have ge4 := tf_69_2 hI1
  have ge5 := tf_72_2 hI1
  have ge6 := tf_63_5 hI1
  have ge7 := tf_63_2 hI1
  have ge8 := tf_98_8 hI2
  have ge9 := tf_98_9 hI2
  have ge10 := tf_98_13 hI2
  rcases pc0 with pc0
  · show h_T g_P (g_Y ns) 56 24 [(0, .ref 63), (1, .int x1)] [] σ1 _
    refine h_iload_n (pc' := 25) rfl rfl rfl ?_
    refine h_tsw (dt := 145) (ts := [130, 145, 145, 145, 145, 145, 145, 145, 88, 102, 116, 123]) rfl rfl rfl rfl hx1 (fun c21 => absurd c21 (by omega)) ⟨fun c21 => ?_, fun c21 => ?_, fun c21 => ?_, fun c21 => ?_, fun c21 => ?_, fun c21 => ?_, fun c21 => ?_, fun c21 => ?_, fun c21 => ?_, fun c21 => ?_, fun c21 => ?_, fun c21 => ?_, trivial⟩
    · refine h_aload_n (pc' := 131) rfl rfl rfl ?_
      refine h_iconst (pc' := 132) (x := (Int32.ofInt 2)) rfl rfl rfl ?_
      refine h_aload_n (pc' := 133) rfl rfl rfl ?_
      refine h_getR (pc' := 136) rfl rfl rfl rfl rfl ?_
      refine h_getI (pc' := 139) (v := σ1 64 4) rfl rfl rfl rfl rfl rfl (fun z22 hz22 => ?_)
      have tz22 := tf_64_4 hI1
      refine h_call (sp := false) (pc' := 142) (M := [(0, .ref 63), (1, .int (Int32.ofInt 2)), (2, .int z22)]) rfl rfl rfl rfl rfl rfl rfl rfl ?_
      refine h_aload_n (pc' := 1) rfl rfl rfl ?_
      refine h_getI (pc' := 4) (v := σ1 63 2) rfl rfl rfl rfl rfl rfl (fun z23 hz23 => ?_)
      have tz23 := tf_63_2 hI1
      refine h_zne (tg := 17) (pc' := 7) rfl rfl rfl hz23 (fun c24 => absurd c24 (by omega)) (fun c24 => ?_)
      clear hz23
      refine h_aload_n (pc' := 8) rfl rfl rfl ?_
      refine h_iload_n (pc' := 9) rfl rfl rfl ?_
      refine h_put (pc' := 12) rfl rfl rfl rfl rfl rfl ci_2 rfl (h_fgt (E := fun s => s 64 2 = σ1 64 2 ∧ s 64 4 = σ1 64 4 ∧ s 64 3 = σ1 64 3 ∧ s 64 5 = σ1 64 5 ∧ s 63 2 = 2 ∧ s 63 3 = σ1 63 3 ∧ s 64 1 = σ1 64 1 ∧ s 66 8 = σ1 66 8 ∧ s 66 9 = σ1 66 9 ∧ s 66 10 = σ1 66 10 ∧ s 69 2 = σ1 69 2 ∧ s 72 2 = σ1 72 2 ∧ s 63 5 = σ1 63 5 ∧ s = h_up σ1 63 2 2) _ (if_63_2 hI1 (by omega)) (F1.up rfl) ⟨rfl, rfl, rfl, rfl, rfl, rfl, rfl, rfl, rfl, rfl, rfl, rfl, rfl, rfl⟩ (fun s25 Is25 Fs25 (es25 : s25 64 2 = σ1 64 2 ∧ s25 64 4 = σ1 64 4 ∧ s25 64 3 = σ1 64 3 ∧ s25 64 5 = σ1 64 5 ∧ s25 63 2 = 2 ∧ s25 63 3 = σ1 63 3 ∧ s25 64 1 = σ1 64 1 ∧ s25 66 8 = σ1 66 8 ∧ s25 66 9 = σ1 66 9 ∧ s25 66 10 = σ1 66 10 ∧ s25 69 2 = σ1 69 2 ∧ s25 72 2 = σ1 72 2 ∧ s25 63 5 = σ1 63 5 ∧ s25 = h_up σ1 63 2 2) => ?_))
      refine h_aload_n (pc' := 13) rfl rfl rfl ?_
      refine h_iload_n (pc' := 14) rfl rfl rfl ?_
      refine h_put (pc' := 17) rfl rfl rfl rfl rfl rfl hz22 rfl (h_fgt (E := fun s => s 64 2 = σ1 64 2 ∧ s 64 4 = σ1 64 4 ∧ s 64 3 = σ1 64 3 ∧ s 64 5 = σ1 64 5 ∧ s 63 2 = 2 ∧ s 63 3 = (σ1 64 4) ∧ s 64 1 = σ1 64 1 ∧ s 66 8 = σ1 66 8 ∧ s 66 9 = σ1 66 9 ∧ s 66 10 = σ1 66 10 ∧ s 69 2 = σ1 69 2 ∧ s 72 2 = σ1 72 2 ∧ s 63 5 = σ1 63 5 ∧ s = h_up s25 63 3 (σ1 64 4)) _ (if_63_3 Is25 (h_rgv hz22)) (Fs25.up rfl) ⟨es25.1, es25.2.1, es25.2.2.1, es25.2.2.2.1, es25.2.2.2.2.1, rfl, es25.2.2.2.2.2.2.1, es25.2.2.2.2.2.2.2.1, es25.2.2.2.2.2.2.2.2.1, es25.2.2.2.2.2.2.2.2.2.1, es25.2.2.2.2.2.2.2.2.2.2.1, es25.2.2.2.2.2.2.2.2.2.2.2.1, es25.2.2.2.2.2.2.2.2.2.2.2.2.1, rfl⟩ (fun s26 Is26 Fs26 (es26 : s26 64 2 = σ1 64 2 ∧ s26 64 4 = σ1 64 4 ∧ s26 64 3 = σ1 64 3 ∧ s26 64 5 = σ1 64 5 ∧ s26 63 2 = 2 ∧ s26 63 3 = (σ1 64 4) ∧ s26 64 1 = σ1 64 1 ∧ s26 66 8 = σ1 66 8 ∧ s26 66 9 = σ1 66 9 ∧ s26 66 10 = σ1 66 10 ∧ s26 69 2 = σ1 69 2 ∧ s26 72 2 = σ1 72 2 ∧ s26 63 5 = σ1 63 5 ∧ s26 = h_up s25 63 3 (σ1 64 4)) => ?_))
      refine h_vret rfl rfl (h_Kn ?_)
      refine h_goto (pc' := 150) rfl rfl ?_
      refine h_aload_n (pc' := 151) rfl rfl rfl ?_
      refine h_getI (pc' := 154) (v := 2) rfl rfl rfl rfl rfl es26.2.2.2.2.1 (fun z27 hz27 => ?_)
      refine h_zne (tg := 180) (pc' := 157) rfl rfl rfl hz27 (fun c28 => ?_) (fun c28 => absurd c28 (by omega))
      clear hz27
      refine d_toM (g_inj ns) hl2 hR2 (fun lvw29 memw29 hlw29 hRw29 => ?_)
      show h_T g_P (g_Y ns) 154 5 [(0, .ref 98), (1, .int y1)] [] σ2 _
      refine h_iload_n (pc' := 6) rfl rfl rfl ?_
      refine h_i2l (pc' := 7) rfl rfl hy1 (fun z30 hz30 => ?_)
      refine h_lconst (pc' := 8) (x := (Int64.ofInt 0)) rfl rfl rfl ?_
      refine h_ldc2 (pc' := 11) (x := (Int64.ofInt 7)) rfl rfl rfl ?_
      refine h_calls (pc' := 14) (M := [(0, .long z30), (2, .long (Int64.ofInt 0)), (4, .long (Int64.ofInt 7))]) rfl rfl rfl rfl rfl rfl ?_
      refine h_lload_n (pc' := 1) rfl rfl rfl ?_
      refine h_lload_n (pc' := 2) rfl rfl rfl ?_
      refine h_lcmp (pc' := 3) rfl rfl hz30 cl_0 (fun z31 hz31 => ?_)
      refine h_zlt (tg := 17) (pc' := 6) rfl rfl rfl rfl (fun c32 => ?_) (fun c32 => ?_)
      · replace c32 := (h_lcr hz31).1 c32
        clear hz31
        refine h_iconst (pc' := 18) (x := (Int32.ofInt 0)) rfl rfl rfl ?_
        refine h_zret rfl rfl ci_0 (by omega) (h_Kv ?_)
        clear hz30
        refine h_zne (tg := 23) (pc' := 17) rfl rfl rfl ci_0 (fun c33 => absurd c33 (by omega)) (fun c33 => ?_)
        refine h_aload_n (pc' := 18) rfl rfl rfl ?_
        refine h_iconst (pc' := 19) (x := (Int32.ofInt 2)) rfl rfl rfl ?_
        refine h_call (sp := false) (pc' := 22) (M := [(0, .ref 98), (1, .int (Int32.ofInt 2))]) rfl rfl rfl rfl rfl rfl rfl rfl ?_
        refine h_aload_n (pc' := 1) rfl rfl rfl ?_
        refine h_getI (pc' := 4) (v := σ2 98 13) rfl rfl rfl rfl rfl rfl (fun z34 hz34 => ?_)
        have tz34 := tf_98_13 hI2
        refine h_zne (tg := 20) (pc' := 7) rfl rfl rfl hz34 (fun c35 => absurd c35 (by omega)) (fun c35 => ?_)
        clear hz34
        refine h_aload_n (pc' := 8) rfl rfl rfl ?_
        refine h_iload_n (pc' := 9) rfl rfl rfl ?_
        refine h_put (pc' := 12) rfl rfl rfl rfl rfl rfl ci_2 rfl (h_fgt (E := fun s => s 98 15 = σ2 98 15 ∧ s 98 16 = σ2 98 16 ∧ s 98 17 = σ2 98 17 ∧ s 98 18 = σ2 98 18 ∧ s 98 13 = 2 ∧ s 98 14 = σ2 98 14 ∧ s 98 5 = σ2 98 5 ∧ s 98 6 = σ2 98 6 ∧ s 98 7 = σ2 98 7 ∧ s 98 8 = σ2 98 8 ∧ s 98 9 = σ2 98 9 ∧ s 101 18 = σ2 101 18 ∧ s 101 25 = σ2 101 25 ∧ s 101 43 = σ2 101 43 ∧ s = h_up σ2 98 13 2) _ (if_98_13 hI2 (by omega)) (F2.up rfl) ⟨rfl, rfl, rfl, rfl, rfl, rfl, rfl, rfl, rfl, rfl, rfl, rfl, rfl, rfl, rfl⟩ (fun s36 Is36 Fs36 (es36 : s36 98 15 = σ2 98 15 ∧ s36 98 16 = σ2 98 16 ∧ s36 98 17 = σ2 98 17 ∧ s36 98 18 = σ2 98 18 ∧ s36 98 13 = 2 ∧ s36 98 14 = σ2 98 14 ∧ s36 98 5 = σ2 98 5 ∧ s36 98 6 = σ2 98 6 ∧ s36 98 7 = σ2 98 7 ∧ s36 98 8 = σ2 98 8 ∧ s36 98 9 = σ2 98 9 ∧ s36 101 18 = σ2 101 18 ∧ s36 101 25 = σ2 101 25 ∧ s36 101 43 = σ2 101 43 ∧ s36 = h_up σ2 98 13 2) => ?_))
        refine h_aload_n (pc' := 13) rfl rfl rfl ?_
        refine h_aload_n (pc' := 14) rfl rfl rfl ?_
        refine h_getI (pc' := 17) (v := σ2 98 16) rfl rfl rfl rfl rfl es36.2.1 (fun z37 hz37 => ?_)
        have tz37 := tf_98_16 hI2
        refine h_put (pc' := 20) rfl rfl rfl rfl rfl rfl hz37 rfl (h_fgt (E := fun s => s 98 15 = σ2 98 15 ∧ s 98 16 = σ2 98 16 ∧ s 98 17 = σ2 98 17 ∧ s 98 18 = σ2 98 18 ∧ s 98 13 = 2 ∧ s 98 14 = (σ2 98 16) ∧ s 98 5 = σ2 98 5 ∧ s 98 6 = σ2 98 6 ∧ s 98 7 = σ2 98 7 ∧ s 98 8 = σ2 98 8 ∧ s 98 9 = σ2 98 9 ∧ s 101 18 = σ2 101 18 ∧ s 101 25 = σ2 101 25 ∧ s 101 43 = σ2 101 43 ∧ s = h_up s36 98 14 (σ2 98 16)) _ (if_98_14 Is36 (h_rgv hz37)) (Fs36.up rfl) ⟨es36.1, es36.2.1, es36.2.2.1, es36.2.2.2.1, es36.2.2.2.2.1, rfl, es36.2.2.2.2.2.2.1, es36.2.2.2.2.2.2.2.1, es36.2.2.2.2.2.2.2.2.1, es36.2.2.2.2.2.2.2.2.2.1, es36.2.2.2.2.2.2.2.2.2.2.1, es36.2.2.2.2.2.2.2.2.2.2.2.1, es36.2.2.2.2.2.2.2.2.2.2.2.2.1, es36.2.2.2.2.2.2.2.2.2.2.2.2.2.1, rfl⟩ (fun s38 Is38 Fs38 (es38 : s38 98 15 = σ2 98 15 ∧ s38 98 16 = σ2 98 16 ∧ s38 98 17 = σ2 98 17 ∧ s38 98 18 = σ2 98 18 ∧ s38 98 13 = 2 ∧ s38 98 14 = (σ2 98 16) ∧ s38 98 5 = σ2 98 5 ∧ s38 98 6 = σ2 98 6 ∧ s38 98 7 = σ2 98 7 ∧ s38 98 8 = σ2 98 8 ∧ s38 98 9 = σ2 98 9 ∧ s38 101 18 = σ2 101 18 ∧ s38 101 25 = σ2 101 25 ∧ s38 101 43 = σ2 101 43 ∧ s38 = h_up s36 98 14 (σ2 98 16)) => ?_))
        refine h_vret rfl rfl (h_Kn ?_)
        refine d_toL (g_inj ns) hlw29 hRw29 (fun lvw39 memw39 hlw39 hRw39 => ?_)
        show h_T g_P (g_Y ns) 56 180 [(0, .ref 63), (1, .int x1)] [] s26 _
        exact h_wk [(0, .ref 63)] ⟨rfl, trivial⟩ (kx2 _ _ Is26 Is38 Fs26 Fs38 (by omega) (by omega) (by omega) (by omega) (by omega) ⟨by omega, by omega, by omega, by omega⟩ _ _ (h_al_ok ⟨rfl, trivial⟩ hlw39) hRw39)
      · replace c32 := (h_lcr hz31).2.1 c32
        clear hz31
        refine h_lload_n (pc' := 7) rfl rfl rfl ?_
        refine h_lload (pc' := 9) rfl rfl rfl ?_
        refine h_lcmp (pc' := 10) rfl rfl hz30 cl_7 (fun z40 hz40 => ?_)
        refine h_zgt (tg := 17) (pc' := 13) rfl rfl rfl rfl (fun c41 => absurd c41 (by omega)) (fun c41 => ?_)
        replace c41 := (h_lcr hz40).2.2.1 c41
        clear hz40
        refine h_iconst (pc' := 14) (x := (Int32.ofInt 1)) rfl rfl rfl ?_
        refine h_goto (pc' := 18) rfl rfl ?_
        refine h_zret rfl rfl ci_1 (by omega) (h_Kv ?_)
        clear hz30
        refine h_zne (tg := 23) (pc' := 17) rfl rfl rfl ci_1 (fun c42 => ?_) (fun c42 => absurd c42 (by omega))
        exfalso
        omega
    · refine d_toM (g_inj ns) hl2 hR2 (fun lvw43 memw43 hlw43 hRw43 => ?_)
      show h_T g_P (g_Y ns) 154 5 [(0, .ref 98), (1, .int y1)] [] σ2 _
      refine h_iload_n (pc' := 6) rfl rfl rfl ?_
      refine h_i2l (pc' := 7) rfl rfl hy1 (fun z44 hz44 => ?_)
      refine h_lconst (pc' := 8) (x := (Int64.ofInt 0)) rfl rfl rfl ?_
      refine h_ldc2 (pc' := 11) (x := (Int64.ofInt 7)) rfl rfl rfl ?_
      refine h_calls (pc' := 14) (M := [(0, .long z44), (2, .long (Int64.ofInt 0)), (4, .long (Int64.ofInt 7))]) rfl rfl rfl rfl rfl rfl ?_
      refine h_lload_n (pc' := 1) rfl rfl rfl ?_
      refine h_lload_n (pc' := 2) rfl rfl rfl ?_
      refine h_lcmp (pc' := 3) rfl rfl hz44 cl_0 (fun z45 hz45 => ?_)
      refine h_zlt (tg := 17) (pc' := 6) rfl rfl rfl rfl (fun c46 => ?_) (fun c46 => ?_)
      · replace c46 := (h_lcr hz45).1 c46
        clear hz45
        refine h_iconst (pc' := 18) (x := (Int32.ofInt 0)) rfl rfl rfl ?_
        refine h_zret rfl rfl ci_0 (by omega) (h_Kv ?_)
        clear hz44
        refine h_zne (tg := 23) (pc' := 17) rfl rfl rfl ci_0 (fun c47 => absurd c47 (by omega)) (fun c47 => ?_)
        refine h_aload_n (pc' := 18) rfl rfl rfl ?_
        refine h_iconst (pc' := 19) (x := (Int32.ofInt 2)) rfl rfl rfl ?_
        refine h_call (sp := false) (pc' := 22) (M := [(0, .ref 98), (1, .int (Int32.ofInt 2))]) rfl rfl rfl rfl rfl rfl rfl rfl ?_
        refine h_aload_n (pc' := 1) rfl rfl rfl ?_
        refine h_getI (pc' := 4) (v := σ2 98 13) rfl rfl rfl rfl rfl rfl (fun z48 hz48 => ?_)
        have tz48 := tf_98_13 hI2
        refine h_zne (tg := 20) (pc' := 7) rfl rfl rfl hz48 (fun c49 => absurd c49 (by omega)) (fun c49 => ?_)
        clear hz48
        refine h_aload_n (pc' := 8) rfl rfl rfl ?_
        refine h_iload_n (pc' := 9) rfl rfl rfl ?_
        refine h_put (pc' := 12) rfl rfl rfl rfl rfl rfl ci_2 rfl (h_fgt (E := fun s => s 98 15 = σ2 98 15 ∧ s 98 16 = σ2 98 16 ∧ s 98 17 = σ2 98 17 ∧ s 98 18 = σ2 98 18 ∧ s 98 13 = 2 ∧ s 98 14 = σ2 98 14 ∧ s 98 5 = σ2 98 5 ∧ s 98 6 = σ2 98 6 ∧ s 98 7 = σ2 98 7 ∧ s 98 8 = σ2 98 8 ∧ s 98 9 = σ2 98 9 ∧ s 101 18 = σ2 101 18 ∧ s 101 25 = σ2 101 25 ∧ s 101 43 = σ2 101 43 ∧ s = h_up σ2 98 13 2) _ (if_98_13 hI2 (by omega)) (F2.up rfl) ⟨rfl, rfl, rfl, rfl, rfl, rfl, rfl, rfl, rfl, rfl, rfl, rfl, rfl, rfl, rfl⟩ (fun s50 Is50 Fs50 (es50 : s50 98 15 = σ2 98 15 ∧ s50 98 16 = σ2 98 16 ∧ s50 98 17 = σ2 98 17 ∧ s50 98 18 = σ2 98 18 ∧ s50 98 13 = 2 ∧ s50 98 14 = σ2 98 14 ∧ s50 98 5 = σ2 98 5 ∧ s50 98 6 = σ2 98 6 ∧ s50 98 7 = σ2 98 7 ∧ s50 98 8 = σ2 98 8 ∧ s50 98 9 = σ2 98 9 ∧ s50 101 18 = σ2 101 18 ∧ s50 101 25 = σ2 101 25 ∧ s50 101 43 = σ2 101 43 ∧ s50 = h_up σ2 98 13 2) => ?_))
        refine h_aload_n (pc' := 13) rfl rfl rfl ?_
        refine h_aload_n (pc' := 14) rfl rfl rfl ?_
        refine h_getI (pc' := 17) (v := σ2 98 16) rfl rfl rfl rfl rfl es50.2.1 (fun z51 hz51 => ?_)
        have tz51 := tf_98_16 hI2
        refine h_put (pc' := 20) rfl rfl rfl rfl rfl rfl hz51 rfl (h_fgt (E := fun s => s 98 15 = σ2 98 15 ∧ s 98 16 = σ2 98 16 ∧ s 98 17 = σ2 98 17 ∧ s 98 18 = σ2 98 18 ∧ s 98 13 = 2 ∧ s 98 14 = (σ2 98 16) ∧ s 98 5 = σ2 98 5 ∧ s 98 6 = σ2 98 6 ∧ s 98 7 = σ2 98 7 ∧ s 98 8 = σ2 98 8 ∧ s 98 9 = σ2 98 9 ∧ s 101 18 = σ2 101 18 ∧ s 101 25 = σ2 101 25 ∧ s 101 43 = σ2 101 43 ∧ s = h_up s50 98 14 (σ2 98 16)) _ (if_98_14 Is50 (h_rgv hz51)) (Fs50.up rfl) ⟨es50.1, es50.2.1, es50.2.2.1, es50.2.2.2.1, es50.2.2.2.2.1, rfl, es50.2.2.2.2.2.2.1, es50.2.2.2.2.2.2.2.1, es50.2.2.2.2.2.2.2.2.1, es50.2.2.2.2.2.2.2.2.2.1, es50.2.2.2.2.2.2.2.2.2.2.1, es50.2.2.2.2.2.2.2.2.2.2.2.1, es50.2.2.2.2.2.2.2.2.2.2.2.2.1, es50.2.2.2.2.2.2.2.2.2.2.2.2.2.1, rfl⟩ (fun s52 Is52 Fs52 (es52 : s52 98 15 = σ2 98 15 ∧ s52 98 16 = σ2 98 16 ∧ s52 98 17 = σ2 98 17 ∧ s52 98 18 = σ2 98 18 ∧ s52 98 13 = 2 ∧ s52 98 14 = (σ2 98 16) ∧ s52 98 5 = σ2 98 5 ∧ s52 98 6 = σ2 98 6 ∧ s52 98 7 = σ2 98 7 ∧ s52 98 8 = σ2 98 8 ∧ s52 98 9 = σ2 98 9 ∧ s52 101 18 = σ2 101 18 ∧ s52 101 25 = σ2 101 25 ∧ s52 101 43 = σ2 101 43 ∧ s52 = h_up s50 98 14 (σ2 98 16)) => ?_))
        refine h_vret rfl rfl (h_Kn ?_)
        exfalso
        omega
      · replace c46 := (h_lcr hz45).2.1 c46
        clear hz45
        refine h_lload_n (pc' := 7) rfl rfl rfl ?_
        refine h_lload (pc' := 9) rfl rfl rfl ?_
        refine h_lcmp (pc' := 10) rfl rfl hz44 cl_7 (fun z53 hz53 => ?_)
        refine h_zgt (tg := 17) (pc' := 13) rfl rfl rfl rfl (fun c54 => absurd c54 (by omega)) (fun c54 => ?_)
        replace c54 := (h_lcr hz53).2.2.1 c54
        clear hz53
        refine h_iconst (pc' := 14) (x := (Int32.ofInt 1)) rfl rfl rfl ?_
        refine h_goto (pc' := 18) rfl rfl ?_
        refine h_zret rfl rfl ci_1 (by omega) (h_Kv ?_)
        clear hz44
        refine h_zne (tg := 23) (pc' := 17) rfl rfl rfl ci_1 (fun c55 => ?_) (fun c55 => absurd c55 (by omega))
        refine d_toL (g_inj ns) hlw43 hRw43 (fun lvw56 memw56 hlw56 hRw56 => ?_)
        show h_T g_P (g_Y ns) 56 145 [(0, .ref 63), (1, .int x1)] [] σ1 _
        refine h_wk [(0, .ref 63), (1, .int x1)] ⟨rfl, rfl, trivial⟩ (ls_one hI1 hI2 (hTL.fr (F1.mono rfl) (F2.mono rfl)) x1 _ hx1 y1 _ hy1 (by omega) (by omega) (by omega) (by omega) (by omega) (by omega) (by omega) (by omega) (by omega) (by omega) (pr10) (by omega) (by omega) ⟨by omega, by omega⟩ (fun sq57 tq57 Isq57 Itq57 Gsq57 Gtq57   yq57_0 yq57_1 yq57_2 yq57_3 yq57_4 yq57_5 pcq57 lvq57 memq57 hlq57 hRq57 => ?_) (fun sq58 tq58 Isq58 Itq58 Gsq58 Gtq58   yq58_0 yq58_1 yq58_2 yq58_3 yq58_4 pcq58 lvq58 memq58 hlq58 hRq58 => ?_) _ _ (h_al_ok ⟨rfl, rfl, trivial⟩ hlw56) hRw56)
        · have Fsq57 := (Gsq57.mono (B := k_pl) rfl).tr F1
          have Ftq57 := (Gtq57.mono (B := k_pm) rfl).tr F2
          have Isq57 := Isq57
          have Itq57 := Itq57
          have Gsq57 := Gsq57
          have Gtq57 := Gtq57
          have esq57_6 : sq57 64 1 = σ1 64 1 := (Gsq57 64 1 rfl).trans rfl
          show h_T g_P (g_Y ns) 56 180 [(0, .ref 63)] [] sq57 _
          refine d_toM (g_inj ns) hlq57 hRq57 (fun lvw59 memw59 hlw59 hRw59 => ?_)
          show h_T g_P (g_Y ns) 154 165 [(0, .ref 98)] [] tq57 _
          refine d_toL (g_inj ns) hlw59 hRw59 (fun lvw60 memw60 hlw60 hRw60 => ?_)
          show h_T g_P (g_Y ns) 56 180 [(0, .ref 63)] [] sq57 _
          exact h_wk [(0, .ref 63)] ⟨rfl, trivial⟩ (kx0 _ _ Isq57 Itq57 Fsq57 Ftq57 (by omega) (by omega) (by omega) (by omega) (by omega) (yq57_5) (pcq57.elim (fun pcq57 => (Or.inl ⟨by omega, by omega, by omega, by omega⟩)) (fun pcq57 => (Or.inr ⟨by omega, by omega, by omega, by omega, by omega, by omega⟩))) _ _ (h_al_ok ⟨rfl, trivial⟩ hlw60) hRw60)
        · have Fsq58 := (Gsq58.mono (B := k_pl) rfl).tr F1
          have Ftq58 := (Gtq58.mono (B := k_pm) rfl).tr F2
          have Isq58 := Isq58
          have Itq58 := Itq58
          have Gsq58 := Gsq58
          have Gtq58 := Gtq58
          have esq58_6 : sq58 64 1 = σ1 64 1 := (Gsq58 64 1 rfl).trans rfl
          show h_T g_P (g_Y ns) 56 180 [(0, .ref 63)] [] sq58 _
          refine d_toM (g_inj ns) hlq58 hRq58 (fun lvw61 memw61 hlw61 hRw61 => ?_)
          show h_T g_P (g_Y ns) 154 139 [(0, .ref 98)] [] tq58 _
          refine d_toL (g_inj ns) hlw61 hRw61 (fun lvw62 memw62 hlw62 hRw62 => ?_)
          show h_T g_P (g_Y ns) 56 180 [(0, .ref 63)] [] sq58 _
          exact h_wk [(0, .ref 63)] ⟨rfl, trivial⟩ (kx1 _ _ Isq58 Itq58 Fsq58 Ftq58 (by omega) (by omega) (by omega) (by omega) (by omega) ⟨by omega, by omega, by omega, by omega⟩ _ _ (h_al_ok ⟨rfl, trivial⟩ hlw62) hRw62)
    · refine d_toM (g_inj ns) hl2 hR2 (fun lvw63 memw63 hlw63 hRw63 => ?_)
      show h_T g_P (g_Y ns) 154 5 [(0, .ref 98), (1, .int y1)] [] σ2 _
      refine h_iload_n (pc' := 6) rfl rfl rfl ?_
      refine h_i2l (pc' := 7) rfl rfl hy1 (fun z64 hz64 => ?_)
      refine h_lconst (pc' := 8) (x := (Int64.ofInt 0)) rfl rfl rfl ?_
      refine h_ldc2 (pc' := 11) (x := (Int64.ofInt 7)) rfl rfl rfl ?_
      refine h_calls (pc' := 14) (M := [(0, .long z64), (2, .long (Int64.ofInt 0)), (4, .long (Int64.ofInt 7))]) rfl rfl rfl rfl rfl rfl ?_
      refine h_lload_n (pc' := 1) rfl rfl rfl ?_
      refine h_lload_n (pc' := 2) rfl rfl rfl ?_
      refine h_lcmp (pc' := 3) rfl rfl hz64 cl_0 (fun z65 hz65 => ?_)
      refine h_zlt (tg := 17) (pc' := 6) rfl rfl rfl rfl (fun c66 => ?_) (fun c66 => ?_)
      · replace c66 := (h_lcr hz65).1 c66
        clear hz65
        refine h_iconst (pc' := 18) (x := (Int32.ofInt 0)) rfl rfl rfl ?_
        refine h_zret rfl rfl ci_0 (by omega) (h_Kv ?_)
        clear hz64
        refine h_zne (tg := 23) (pc' := 17) rfl rfl rfl ci_0 (fun c67 => absurd c67 (by omega)) (fun c67 => ?_)
        refine h_aload_n (pc' := 18) rfl rfl rfl ?_
        refine h_iconst (pc' := 19) (x := (Int32.ofInt 2)) rfl rfl rfl ?_
        refine h_call (sp := false) (pc' := 22) (M := [(0, .ref 98), (1, .int (Int32.ofInt 2))]) rfl rfl rfl rfl rfl rfl rfl rfl ?_
        refine h_aload_n (pc' := 1) rfl rfl rfl ?_
        refine h_getI (pc' := 4) (v := σ2 98 13) rfl rfl rfl rfl rfl rfl (fun z68 hz68 => ?_)
        have tz68 := tf_98_13 hI2
        refine h_zne (tg := 20) (pc' := 7) rfl rfl rfl hz68 (fun c69 => absurd c69 (by omega)) (fun c69 => ?_)
        clear hz68
        refine h_aload_n (pc' := 8) rfl rfl rfl ?_
        refine h_iload_n (pc' := 9) rfl rfl rfl ?_
        refine h_put (pc' := 12) rfl rfl rfl rfl rfl rfl ci_2 rfl (h_fgt (E := fun s => s 98 15 = σ2 98 15 ∧ s 98 16 = σ2 98 16 ∧ s 98 17 = σ2 98 17 ∧ s 98 18 = σ2 98 18 ∧ s 98 13 = 2 ∧ s 98 14 = σ2 98 14 ∧ s 98 5 = σ2 98 5 ∧ s 98 6 = σ2 98 6 ∧ s 98 7 = σ2 98 7 ∧ s 98 8 = σ2 98 8 ∧ s 98 9 = σ2 98 9 ∧ s 101 18 = σ2 101 18 ∧ s 101 25 = σ2 101 25 ∧ s 101 43 = σ2 101 43 ∧ s = h_up σ2 98 13 2) _ (if_98_13 hI2 (by omega)) (F2.up rfl) ⟨rfl, rfl, rfl, rfl, rfl, rfl, rfl, rfl, rfl, rfl, rfl, rfl, rfl, rfl, rfl⟩ (fun s70 Is70 Fs70 (es70 : s70 98 15 = σ2 98 15 ∧ s70 98 16 = σ2 98 16 ∧ s70 98 17 = σ2 98 17 ∧ s70 98 18 = σ2 98 18 ∧ s70 98 13 = 2 ∧ s70 98 14 = σ2 98 14 ∧ s70 98 5 = σ2 98 5 ∧ s70 98 6 = σ2 98 6 ∧ s70 98 7 = σ2 98 7 ∧ s70 98 8 = σ2 98 8 ∧ s70 98 9 = σ2 98 9 ∧ s70 101 18 = σ2 101 18 ∧ s70 101 25 = σ2 101 25 ∧ s70 101 43 = σ2 101 43 ∧ s70 = h_up σ2 98 13 2) => ?_))
        refine h_aload_n (pc' := 13) rfl rfl rfl ?_
        refine h_aload_n (pc' := 14) rfl rfl rfl ?_
        refine h_getI (pc' := 17) (v := σ2 98 16) rfl rfl rfl rfl rfl es70.2.1 (fun z71 hz71 => ?_)
        have tz71 := tf_98_16 hI2
        refine h_put (pc' := 20) rfl rfl rfl rfl rfl rfl hz71 rfl (h_fgt (E := fun s => s 98 15 = σ2 98 15 ∧ s 98 16 = σ2 98 16 ∧ s 98 17 = σ2 98 17 ∧ s 98 18 = σ2 98 18 ∧ s 98 13 = 2 ∧ s 98 14 = (σ2 98 16) ∧ s 98 5 = σ2 98 5 ∧ s 98 6 = σ2 98 6 ∧ s 98 7 = σ2 98 7 ∧ s 98 8 = σ2 98 8 ∧ s 98 9 = σ2 98 9 ∧ s 101 18 = σ2 101 18 ∧ s 101 25 = σ2 101 25 ∧ s 101 43 = σ2 101 43 ∧ s = h_up s70 98 14 (σ2 98 16)) _ (if_98_14 Is70 (h_rgv hz71)) (Fs70.up rfl) ⟨es70.1, es70.2.1, es70.2.2.1, es70.2.2.2.1, es70.2.2.2.2.1, rfl, es70.2.2.2.2.2.2.1, es70.2.2.2.2.2.2.2.1, es70.2.2.2.2.2.2.2.2.1, es70.2.2.2.2.2.2.2.2.2.1, es70.2.2.2.2.2.2.2.2.2.2.1, es70.2.2.2.2.2.2.2.2.2.2.2.1, es70.2.2.2.2.2.2.2.2.2.2.2.2.1, es70.2.2.2.2.2.2.2.2.2.2.2.2.2.1, rfl⟩ (fun s72 Is72 Fs72 (es72 : s72 98 15 = σ2 98 15 ∧ s72 98 16 = σ2 98 16 ∧ s72 98 17 = σ2 98 17 ∧ s72 98 18 = σ2 98 18 ∧ s72 98 13 = 2 ∧ s72 98 14 = (σ2 98 16) ∧ s72 98 5 = σ2 98 5 ∧ s72 98 6 = σ2 98 6 ∧ s72 98 7 = σ2 98 7 ∧ s72 98 8 = σ2 98 8 ∧ s72 98 9 = σ2 98 9 ∧ s72 101 18 = σ2 101 18 ∧ s72 101 25 = σ2 101 25 ∧ s72 101 43 = σ2 101 43 ∧ s72 = h_up s70 98 14 (σ2 98 16)) => ?_))
        refine h_vret rfl rfl (h_Kn ?_)
        exfalso
        omega
      · replace c66 := (h_lcr hz65).2.1 c66
        clear hz65
        refine h_lload_n (pc' := 7) rfl rfl rfl ?_
        refine h_lload (pc' := 9) rfl rfl rfl ?_
        refine h_lcmp (pc' := 10) rfl rfl hz64 cl_7 (fun z73 hz73 => ?_)
        refine h_zgt (tg := 17) (pc' := 13) rfl rfl rfl rfl (fun c74 => absurd c74 (by omega)) (fun c74 => ?_)
        replace c74 := (h_lcr hz73).2.2.1 c74
        clear hz73
        refine h_iconst (pc' := 14) (x := (Int32.ofInt 1)) rfl rfl rfl ?_
        refine h_goto (pc' := 18) rfl rfl ?_
        refine h_zret rfl rfl ci_1 (by omega) (h_Kv ?_)
        clear hz64
        refine h_zne (tg := 23) (pc' := 17) rfl rfl rfl ci_1 (fun c75 => ?_) (fun c75 => absurd c75 (by omega))
        refine d_toL (g_inj ns) hlw63 hRw63 (fun lvw76 memw76 hlw76 hRw76 => ?_)
        show h_T g_P (g_Y ns) 56 145 [(0, .ref 63), (1, .int x1)] [] σ1 _
        refine h_wk [(0, .ref 63), (1, .int x1)] ⟨rfl, rfl, trivial⟩ (ls_one hI1 hI2 (hTL.fr (F1.mono rfl) (F2.mono rfl)) x1 _ hx1 y1 _ hy1 (by omega) (by omega) (by omega) (by omega) (by omega) (by omega) (by omega) (by omega) (by omega) (by omega) (pr10) (by omega) (by omega) ⟨by omega, by omega⟩ (fun sq77 tq77 Isq77 Itq77 Gsq77 Gtq77   yq77_0 yq77_1 yq77_2 yq77_3 yq77_4 yq77_5 pcq77 lvq77 memq77 hlq77 hRq77 => ?_) (fun sq78 tq78 Isq78 Itq78 Gsq78 Gtq78   yq78_0 yq78_1 yq78_2 yq78_3 yq78_4 pcq78 lvq78 memq78 hlq78 hRq78 => ?_) _ _ (h_al_ok ⟨rfl, rfl, trivial⟩ hlw76) hRw76)
        · have Fsq77 := (Gsq77.mono (B := k_pl) rfl).tr F1
          have Ftq77 := (Gtq77.mono (B := k_pm) rfl).tr F2
          have Isq77 := Isq77
          have Itq77 := Itq77
          have Gsq77 := Gsq77
          have Gtq77 := Gtq77
          have esq77_6 : sq77 64 1 = σ1 64 1 := (Gsq77 64 1 rfl).trans rfl
          show h_T g_P (g_Y ns) 56 180 [(0, .ref 63)] [] sq77 _
          refine d_toM (g_inj ns) hlq77 hRq77 (fun lvw79 memw79 hlw79 hRw79 => ?_)
          show h_T g_P (g_Y ns) 154 165 [(0, .ref 98)] [] tq77 _
          refine d_toL (g_inj ns) hlw79 hRw79 (fun lvw80 memw80 hlw80 hRw80 => ?_)
          show h_T g_P (g_Y ns) 56 180 [(0, .ref 63)] [] sq77 _
          exact h_wk [(0, .ref 63)] ⟨rfl, trivial⟩ (kx0 _ _ Isq77 Itq77 Fsq77 Ftq77 (by omega) (by omega) (by omega) (by omega) (by omega) (yq77_5) (pcq77.elim (fun pcq77 => (Or.inl ⟨by omega, by omega, by omega, by omega⟩)) (fun pcq77 => (Or.inr ⟨by omega, by omega, by omega, by omega, by omega, by omega⟩))) _ _ (h_al_ok ⟨rfl, trivial⟩ hlw80) hRw80)
        · have Fsq78 := (Gsq78.mono (B := k_pl) rfl).tr F1
          have Ftq78 := (Gtq78.mono (B := k_pm) rfl).tr F2
          have Isq78 := Isq78
          have Itq78 := Itq78
          have Gsq78 := Gsq78
          have Gtq78 := Gtq78
          have esq78_6 : sq78 64 1 = σ1 64 1 := (Gsq78 64 1 rfl).trans rfl
          show h_T g_P (g_Y ns) 56 180 [(0, .ref 63)] [] sq78 _
          refine d_toM (g_inj ns) hlq78 hRq78 (fun lvw81 memw81 hlw81 hRw81 => ?_)
          show h_T g_P (g_Y ns) 154 139 [(0, .ref 98)] [] tq78 _
          refine d_toL (g_inj ns) hlw81 hRw81 (fun lvw82 memw82 hlw82 hRw82 => ?_)
          show h_T g_P (g_Y ns) 56 180 [(0, .ref 63)] [] sq78 _
          exact h_wk [(0, .ref 63)] ⟨rfl, trivial⟩ (kx1 _ _ Isq78 Itq78 Fsq78 Ftq78 (by omega) (by omega) (by omega) (by omega) (by omega) ⟨by omega, by omega, by omega, by omega⟩ _ _ (h_al_ok ⟨rfl, trivial⟩ hlw82) hRw82)
    · refine d_toM (g_inj ns) hl2 hR2 (fun lvw83 memw83 hlw83 hRw83 => ?_)
      show h_T g_P (g_Y ns) 154 5 [(0, .ref 98), (1, .int y1)] [] σ2 _
      refine h_iload_n (pc' := 6) rfl rfl rfl ?_
      refine h_i2l (pc' := 7) rfl rfl hy1 (fun z84 hz84 => ?_)
      refine h_lconst (pc' := 8) (x := (Int64.ofInt 0)) rfl rfl rfl ?_
      refine h_ldc2 (pc' := 11) (x := (Int64.ofInt 7)) rfl rfl rfl ?_
      refine h_calls (pc' := 14) (M := [(0, .long z84), (2, .long (Int64.ofInt 0)), (4, .long (Int64.ofInt 7))]) rfl rfl rfl rfl rfl rfl ?_
      refine h_lload_n (pc' := 1) rfl rfl rfl ?_
      refine h_lload_n (pc' := 2) rfl rfl rfl ?_
      refine h_lcmp (pc' := 3) rfl rfl hz84 cl_0 (fun z85 hz85 => ?_)
      refine h_zlt (tg := 17) (pc' := 6) rfl rfl rfl rfl (fun c86 => ?_) (fun c86 => ?_)
      · replace c86 := (h_lcr hz85).1 c86
        clear hz85
        refine h_iconst (pc' := 18) (x := (Int32.ofInt 0)) rfl rfl rfl ?_
        refine h_zret rfl rfl ci_0 (by omega) (h_Kv ?_)
        clear hz84
        refine h_zne (tg := 23) (pc' := 17) rfl rfl rfl ci_0 (fun c87 => absurd c87 (by omega)) (fun c87 => ?_)
        refine h_aload_n (pc' := 18) rfl rfl rfl ?_
        refine h_iconst (pc' := 19) (x := (Int32.ofInt 2)) rfl rfl rfl ?_
        refine h_call (sp := false) (pc' := 22) (M := [(0, .ref 98), (1, .int (Int32.ofInt 2))]) rfl rfl rfl rfl rfl rfl rfl rfl ?_
        refine h_aload_n (pc' := 1) rfl rfl rfl ?_
        refine h_getI (pc' := 4) (v := σ2 98 13) rfl rfl rfl rfl rfl rfl (fun z88 hz88 => ?_)
        have tz88 := tf_98_13 hI2
        refine h_zne (tg := 20) (pc' := 7) rfl rfl rfl hz88 (fun c89 => absurd c89 (by omega)) (fun c89 => ?_)
        clear hz88
        refine h_aload_n (pc' := 8) rfl rfl rfl ?_
        refine h_iload_n (pc' := 9) rfl rfl rfl ?_
        refine h_put (pc' := 12) rfl rfl rfl rfl rfl rfl ci_2 rfl (h_fgt (E := fun s => s 98 15 = σ2 98 15 ∧ s 98 16 = σ2 98 16 ∧ s 98 17 = σ2 98 17 ∧ s 98 18 = σ2 98 18 ∧ s 98 13 = 2 ∧ s 98 14 = σ2 98 14 ∧ s 98 5 = σ2 98 5 ∧ s 98 6 = σ2 98 6 ∧ s 98 7 = σ2 98 7 ∧ s 98 8 = σ2 98 8 ∧ s 98 9 = σ2 98 9 ∧ s 101 18 = σ2 101 18 ∧ s 101 25 = σ2 101 25 ∧ s 101 43 = σ2 101 43 ∧ s = h_up σ2 98 13 2) _ (if_98_13 hI2 (by omega)) (F2.up rfl) ⟨rfl, rfl, rfl, rfl, rfl, rfl, rfl, rfl, rfl, rfl, rfl, rfl, rfl, rfl, rfl⟩ (fun s90 Is90 Fs90 (es90 : s90 98 15 = σ2 98 15 ∧ s90 98 16 = σ2 98 16 ∧ s90 98 17 = σ2 98 17 ∧ s90 98 18 = σ2 98 18 ∧ s90 98 13 = 2 ∧ s90 98 14 = σ2 98 14 ∧ s90 98 5 = σ2 98 5 ∧ s90 98 6 = σ2 98 6 ∧ s90 98 7 = σ2 98 7 ∧ s90 98 8 = σ2 98 8 ∧ s90 98 9 = σ2 98 9 ∧ s90 101 18 = σ2 101 18 ∧ s90 101 25 = σ2 101 25 ∧ s90 101 43 = σ2 101 43 ∧ s90 = h_up σ2 98 13 2) => ?_))
        refine h_aload_n (pc' := 13) rfl rfl rfl ?_
        refine h_aload_n (pc' := 14) rfl rfl rfl ?_
        refine h_getI (pc' := 17) (v := σ2 98 16) rfl rfl rfl rfl rfl es90.2.1 (fun z91 hz91 => ?_)
        have tz91 := tf_98_16 hI2
        refine h_put (pc' := 20) rfl rfl rfl rfl rfl rfl hz91 rfl (h_fgt (E := fun s => s 98 15 = σ2 98 15 ∧ s 98 16 = σ2 98 16 ∧ s 98 17 = σ2 98 17 ∧ s 98 18 = σ2 98 18 ∧ s 98 13 = 2 ∧ s 98 14 = (σ2 98 16) ∧ s 98 5 = σ2 98 5 ∧ s 98 6 = σ2 98 6 ∧ s 98 7 = σ2 98 7 ∧ s 98 8 = σ2 98 8 ∧ s 98 9 = σ2 98 9 ∧ s 101 18 = σ2 101 18 ∧ s 101 25 = σ2 101 25 ∧ s 101 43 = σ2 101 43 ∧ s = h_up s90 98 14 (σ2 98 16)) _ (if_98_14 Is90 (h_rgv hz91)) (Fs90.up rfl) ⟨es90.1, es90.2.1, es90.2.2.1, es90.2.2.2.1, es90.2.2.2.2.1, rfl, es90.2.2.2.2.2.2.1, es90.2.2.2.2.2.2.2.1, es90.2.2.2.2.2.2.2.2.1, es90.2.2.2.2.2.2.2.2.2.1, es90.2.2.2.2.2.2.2.2.2.2.1, es90.2.2.2.2.2.2.2.2.2.2.2.1, es90.2.2.2.2.2.2.2.2.2.2.2.2.1, es90.2.2.2.2.2.2.2.2.2.2.2.2.2.1, rfl⟩ (fun s92 Is92 Fs92 (es92 : s92 98 15 = σ2 98 15 ∧ s92 98 16 = σ2 98 16 ∧ s92 98 17 = σ2 98 17 ∧ s92 98 18 = σ2 98 18 ∧ s92 98 13 = 2 ∧ s92 98 14 = (σ2 98 16) ∧ s92 98 5 = σ2 98 5 ∧ s92 98 6 = σ2 98 6 ∧ s92 98 7 = σ2 98 7 ∧ s92 98 8 = σ2 98 8 ∧ s92 98 9 = σ2 98 9 ∧ s92 101 18 = σ2 101 18 ∧ s92 101 25 = σ2 101 25 ∧ s92 101 43 = σ2 101 43 ∧ s92 = h_up s90 98 14 (σ2 98 16)) => ?_))
        refine h_vret rfl rfl (h_Kn ?_)
        exfalso
        omega
      · replace c86 := (h_lcr hz85).2.1 c86
        clear hz85
        refine h_lload_n (pc' := 7) rfl rfl rfl ?_
        refine h_lload (pc' := 9) rfl rfl rfl ?_
        refine h_lcmp (pc' := 10) rfl rfl hz84 cl_7 (fun z93 hz93 => ?_)
        refine h_zgt (tg := 17) (pc' := 13) rfl rfl rfl rfl (fun c94 => absurd c94 (by omega)) (fun c94 => ?_)
        replace c94 := (h_lcr hz93).2.2.1 c94
        clear hz93
        refine h_iconst (pc' := 14) (x := (Int32.ofInt 1)) rfl rfl rfl ?_
        refine h_goto (pc' := 18) rfl rfl ?_
        refine h_zret rfl rfl ci_1 (by omega) (h_Kv ?_)
        clear hz84
        refine h_zne (tg := 23) (pc' := 17) rfl rfl rfl ci_1 (fun c95 => ?_) (fun c95 => absurd c95 (by omega))
        refine d_toL (g_inj ns) hlw83 hRw83 (fun lvw96 memw96 hlw96 hRw96 => ?_)
        show h_T g_P (g_Y ns) 56 145 [(0, .ref 63), (1, .int x1)] [] σ1 _
        refine h_wk [(0, .ref 63), (1, .int x1)] ⟨rfl, rfl, trivial⟩ (ls_one hI1 hI2 (hTL.fr (F1.mono rfl) (F2.mono rfl)) x1 _ hx1 y1 _ hy1 (by omega) (by omega) (by omega) (by omega) (by omega) (by omega) (by omega) (by omega) (by omega) (by omega) (pr10) (by omega) (by omega) ⟨by omega, by omega⟩ (fun sq97 tq97 Isq97 Itq97 Gsq97 Gtq97   yq97_0 yq97_1 yq97_2 yq97_3 yq97_4 yq97_5 pcq97 lvq97 memq97 hlq97 hRq97 => ?_) (fun sq98 tq98 Isq98 Itq98 Gsq98 Gtq98   yq98_0 yq98_1 yq98_2 yq98_3 yq98_4 pcq98 lvq98 memq98 hlq98 hRq98 => ?_) _ _ (h_al_ok ⟨rfl, rfl, trivial⟩ hlw96) hRw96)
        · have Fsq97 := (Gsq97.mono (B := k_pl) rfl).tr F1
          have Ftq97 := (Gtq97.mono (B := k_pm) rfl).tr F2
          have Isq97 := Isq97
          have Itq97 := Itq97
          have Gsq97 := Gsq97
          have Gtq97 := Gtq97
          have esq97_6 : sq97 64 1 = σ1 64 1 := (Gsq97 64 1 rfl).trans rfl
          show h_T g_P (g_Y ns) 56 180 [(0, .ref 63)] [] sq97 _
          refine d_toM (g_inj ns) hlq97 hRq97 (fun lvw99 memw99 hlw99 hRw99 => ?_)
          show h_T g_P (g_Y ns) 154 165 [(0, .ref 98)] [] tq97 _
          refine d_toL (g_inj ns) hlw99 hRw99 (fun lvw100 memw100 hlw100 hRw100 => ?_)
          show h_T g_P (g_Y ns) 56 180 [(0, .ref 63)] [] sq97 _
          exact h_wk [(0, .ref 63)] ⟨rfl, trivial⟩ (kx0 _ _ Isq97 Itq97 Fsq97 Ftq97 (by omega) (by omega) (by omega) (by omega) (by omega) (yq97_5) (pcq97.elim (fun pcq97 => (Or.inl ⟨by omega, by omega, by omega, by omega⟩)) (fun pcq97 => (Or.inr ⟨by omega, by omega, by omega, by omega, by omega, by omega⟩))) _ _ (h_al_ok ⟨rfl, trivial⟩ hlw100) hRw100)
        · have Fsq98 := (Gsq98.mono (B := k_pl) rfl).tr F1
          have Ftq98 := (Gtq98.mono (B := k_pm) rfl).tr F2
          have Isq98 := Isq98
          have Itq98 := Itq98
          have Gsq98 := Gsq98
          have Gtq98 := Gtq98
          have esq98_6 : sq98 64 1 = σ1 64 1 := (Gsq98 64 1 rfl).trans rfl
          show h_T g_P (g_Y ns) 56 180 [(0, .ref 63)] [] sq98 _
          refine d_toM (g_inj ns) hlq98 hRq98 (fun lvw101 memw101 hlw101 hRw101 => ?_)
          show h_T g_P (g_Y ns) 154 139 [(0, .ref 98)] [] tq98 _
          refine d_toL (g_inj ns) hlw101 hRw101 (fun lvw102 memw102 hlw102 hRw102 => ?_)
          show h_T g_P (g_Y ns) 56 180 [(0, .ref 63)] [] sq98 _
          exact h_wk [(0, .ref 63)] ⟨rfl, trivial⟩ (kx1 _ _ Isq98 Itq98 Fsq98 Ftq98 (by omega) (by omega) (by omega) (by omega) (by omega) ⟨by omega, by omega, by omega, by omega⟩ _ _ (h_al_ok ⟨rfl, trivial⟩ hlw102) hRw102)
    · refine d_toM (g_inj ns) hl2 hR2 (fun lvw103 memw103 hlw103 hRw103 => ?_)
      show h_T g_P (g_Y ns) 154 5 [(0, .ref 98), (1, .int y1)] [] σ2 _
      refine h_iload_n (pc' := 6) rfl rfl rfl ?_
      refine h_i2l (pc' := 7) rfl rfl hy1 (fun z104 hz104 => ?_)
      refine h_lconst (pc' := 8) (x := (Int64.ofInt 0)) rfl rfl rfl ?_
      refine h_ldc2 (pc' := 11) (x := (Int64.ofInt 7)) rfl rfl rfl ?_
      refine h_calls (pc' := 14) (M := [(0, .long z104), (2, .long (Int64.ofInt 0)), (4, .long (Int64.ofInt 7))]) rfl rfl rfl rfl rfl rfl ?_
      refine h_lload_n (pc' := 1) rfl rfl rfl ?_
      refine h_lload_n (pc' := 2) rfl rfl rfl ?_
      refine h_lcmp (pc' := 3) rfl rfl hz104 cl_0 (fun z105 hz105 => ?_)
      refine h_zlt (tg := 17) (pc' := 6) rfl rfl rfl rfl (fun c106 => ?_) (fun c106 => ?_)
      · replace c106 := (h_lcr hz105).1 c106
        clear hz105
        refine h_iconst (pc' := 18) (x := (Int32.ofInt 0)) rfl rfl rfl ?_
        refine h_zret rfl rfl ci_0 (by omega) (h_Kv ?_)
        clear hz104
        refine h_zne (tg := 23) (pc' := 17) rfl rfl rfl ci_0 (fun c107 => absurd c107 (by omega)) (fun c107 => ?_)
        refine h_aload_n (pc' := 18) rfl rfl rfl ?_
        refine h_iconst (pc' := 19) (x := (Int32.ofInt 2)) rfl rfl rfl ?_
        refine h_call (sp := false) (pc' := 22) (M := [(0, .ref 98), (1, .int (Int32.ofInt 2))]) rfl rfl rfl rfl rfl rfl rfl rfl ?_
        refine h_aload_n (pc' := 1) rfl rfl rfl ?_
        refine h_getI (pc' := 4) (v := σ2 98 13) rfl rfl rfl rfl rfl rfl (fun z108 hz108 => ?_)
        have tz108 := tf_98_13 hI2
        refine h_zne (tg := 20) (pc' := 7) rfl rfl rfl hz108 (fun c109 => absurd c109 (by omega)) (fun c109 => ?_)
        clear hz108
        refine h_aload_n (pc' := 8) rfl rfl rfl ?_
        refine h_iload_n (pc' := 9) rfl rfl rfl ?_
        refine h_put (pc' := 12) rfl rfl rfl rfl rfl rfl ci_2 rfl (h_fgt (E := fun s => s 98 15 = σ2 98 15 ∧ s 98 16 = σ2 98 16 ∧ s 98 17 = σ2 98 17 ∧ s 98 18 = σ2 98 18 ∧ s 98 13 = 2 ∧ s 98 14 = σ2 98 14 ∧ s 98 5 = σ2 98 5 ∧ s 98 6 = σ2 98 6 ∧ s 98 7 = σ2 98 7 ∧ s 98 8 = σ2 98 8 ∧ s 98 9 = σ2 98 9 ∧ s 101 18 = σ2 101 18 ∧ s 101 25 = σ2 101 25 ∧ s 101 43 = σ2 101 43 ∧ s = h_up σ2 98 13 2) _ (if_98_13 hI2 (by omega)) (F2.up rfl) ⟨rfl, rfl, rfl, rfl, rfl, rfl, rfl, rfl, rfl, rfl, rfl, rfl, rfl, rfl, rfl⟩ (fun s110 Is110 Fs110 (es110 : s110 98 15 = σ2 98 15 ∧ s110 98 16 = σ2 98 16 ∧ s110 98 17 = σ2 98 17 ∧ s110 98 18 = σ2 98 18 ∧ s110 98 13 = 2 ∧ s110 98 14 = σ2 98 14 ∧ s110 98 5 = σ2 98 5 ∧ s110 98 6 = σ2 98 6 ∧ s110 98 7 = σ2 98 7 ∧ s110 98 8 = σ2 98 8 ∧ s110 98 9 = σ2 98 9 ∧ s110 101 18 = σ2 101 18 ∧ s110 101 25 = σ2 101 25 ∧ s110 101 43 = σ2 101 43 ∧ s110 = h_up σ2 98 13 2) => ?_))
        refine h_aload_n (pc' := 13) rfl rfl rfl ?_
        refine h_aload_n (pc' := 14) rfl rfl rfl ?_
        refine h_getI (pc' := 17) (v := σ2 98 16) rfl rfl rfl rfl rfl es110.2.1 (fun z111 hz111 => ?_)
        have tz111 := tf_98_16 hI2
        refine h_put (pc' := 20) rfl rfl rfl rfl rfl rfl hz111 rfl (h_fgt (E := fun s => s 98 15 = σ2 98 15 ∧ s 98 16 = σ2 98 16 ∧ s 98 17 = σ2 98 17 ∧ s 98 18 = σ2 98 18 ∧ s 98 13 = 2 ∧ s 98 14 = (σ2 98 16) ∧ s 98 5 = σ2 98 5 ∧ s 98 6 = σ2 98 6 ∧ s 98 7 = σ2 98 7 ∧ s 98 8 = σ2 98 8 ∧ s 98 9 = σ2 98 9 ∧ s 101 18 = σ2 101 18 ∧ s 101 25 = σ2 101 25 ∧ s 101 43 = σ2 101 43 ∧ s = h_up s110 98 14 (σ2 98 16)) _ (if_98_14 Is110 (h_rgv hz111)) (Fs110.up rfl) ⟨es110.1, es110.2.1, es110.2.2.1, es110.2.2.2.1, es110.2.2.2.2.1, rfl, es110.2.2.2.2.2.2.1, es110.2.2.2.2.2.2.2.1, es110.2.2.2.2.2.2.2.2.1, es110.2.2.2.2.2.2.2.2.2.1, es110.2.2.2.2.2.2.2.2.2.2.1, es110.2.2.2.2.2.2.2.2.2.2.2.1, es110.2.2.2.2.2.2.2.2.2.2.2.2.1, es110.2.2.2.2.2.2.2.2.2.2.2.2.2.1, rfl⟩ (fun s112 Is112 Fs112 (es112 : s112 98 15 = σ2 98 15 ∧ s112 98 16 = σ2 98 16 ∧ s112 98 17 = σ2 98 17 ∧ s112 98 18 = σ2 98 18 ∧ s112 98 13 = 2 ∧ s112 98 14 = (σ2 98 16) ∧ s112 98 5 = σ2 98 5 ∧ s112 98 6 = σ2 98 6 ∧ s112 98 7 = σ2 98 7 ∧ s112 98 8 = σ2 98 8 ∧ s112 98 9 = σ2 98 9 ∧ s112 101 18 = σ2 101 18 ∧ s112 101 25 = σ2 101 25 ∧ s112 101 43 = σ2 101 43 ∧ s112 = h_up s110 98 14 (σ2 98 16)) => ?_))
        refine h_vret rfl rfl (h_Kn ?_)
        exfalso
        omega
      · replace c106 := (h_lcr hz105).2.1 c106
        clear hz105
        refine h_lload_n (pc' := 7) rfl rfl rfl ?_
        refine h_lload (pc' := 9) rfl rfl rfl ?_
        refine h_lcmp (pc' := 10) rfl rfl hz104 cl_7 (fun z113 hz113 => ?_)
        refine h_zgt (tg := 17) (pc' := 13) rfl rfl rfl rfl (fun c114 => absurd c114 (by omega)) (fun c114 => ?_)
        replace c114 := (h_lcr hz113).2.2.1 c114
        clear hz113
        refine h_iconst (pc' := 14) (x := (Int32.ofInt 1)) rfl rfl rfl ?_
        refine h_goto (pc' := 18) rfl rfl ?_
        refine h_zret rfl rfl ci_1 (by omega) (h_Kv ?_)
        clear hz104
        refine h_zne (tg := 23) (pc' := 17) rfl rfl rfl ci_1 (fun c115 => ?_) (fun c115 => absurd c115 (by omega))
        refine d_toL (g_inj ns) hlw103 hRw103 (fun lvw116 memw116 hlw116 hRw116 => ?_)
        show h_T g_P (g_Y ns) 56 145 [(0, .ref 63), (1, .int x1)] [] σ1 _
        refine h_wk [(0, .ref 63), (1, .int x1)] ⟨rfl, rfl, trivial⟩ (ls_one hI1 hI2 (hTL.fr (F1.mono rfl) (F2.mono rfl)) x1 _ hx1 y1 _ hy1 (by omega) (by omega) (by omega) (by omega) (by omega) (by omega) (by omega) (by omega) (by omega) (by omega) (pr10) (by omega) (by omega) ⟨by omega, by omega⟩ (fun sq117 tq117 Isq117 Itq117 Gsq117 Gtq117   yq117_0 yq117_1 yq117_2 yq117_3 yq117_4 yq117_5 pcq117 lvq117 memq117 hlq117 hRq117 => ?_) (fun sq118 tq118 Isq118 Itq118 Gsq118 Gtq118   yq118_0 yq118_1 yq118_2 yq118_3 yq118_4 pcq118 lvq118 memq118 hlq118 hRq118 => ?_) _ _ (h_al_ok ⟨rfl, rfl, trivial⟩ hlw116) hRw116)
        · have Fsq117 := (Gsq117.mono (B := k_pl) rfl).tr F1
          have Ftq117 := (Gtq117.mono (B := k_pm) rfl).tr F2
          have Isq117 := Isq117
          have Itq117 := Itq117
          have Gsq117 := Gsq117
          have Gtq117 := Gtq117
          have esq117_6 : sq117 64 1 = σ1 64 1 := (Gsq117 64 1 rfl).trans rfl
          show h_T g_P (g_Y ns) 56 180 [(0, .ref 63)] [] sq117 _
          refine d_toM (g_inj ns) hlq117 hRq117 (fun lvw119 memw119 hlw119 hRw119 => ?_)
          show h_T g_P (g_Y ns) 154 165 [(0, .ref 98)] [] tq117 _
          refine d_toL (g_inj ns) hlw119 hRw119 (fun lvw120 memw120 hlw120 hRw120 => ?_)
          show h_T g_P (g_Y ns) 56 180 [(0, .ref 63)] [] sq117 _
          exact h_wk [(0, .ref 63)] ⟨rfl, trivial⟩ (kx0 _ _ Isq117 Itq117 Fsq117 Ftq117 (by omega) (by omega) (by omega) (by omega) (by omega) (yq117_5) (pcq117.elim (fun pcq117 => (Or.inl ⟨by omega, by omega, by omega, by omega⟩)) (fun pcq117 => (Or.inr ⟨by omega, by omega, by omega, by omega, by omega, by omega⟩))) _ _ (h_al_ok ⟨rfl, trivial⟩ hlw120) hRw120)
        · have Fsq118 := (Gsq118.mono (B := k_pl) rfl).tr F1
          have Ftq118 := (Gtq118.mono (B := k_pm) rfl).tr F2
          have Isq118 := Isq118
          have Itq118 := Itq118
          have Gsq118 := Gsq118
          have Gtq118 := Gtq118
          have esq118_6 : sq118 64 1 = σ1 64 1 := (Gsq118 64 1 rfl).trans rfl
          show h_T g_P (g_Y ns) 56 180 [(0, .ref 63)] [] sq118 _
          refine d_toM (g_inj ns) hlq118 hRq118 (fun lvw121 memw121 hlw121 hRw121 => ?_)
          show h_T g_P (g_Y ns) 154 139 [(0, .ref 98)] [] tq118 _
          refine d_toL (g_inj ns) hlw121 hRw121 (fun lvw122 memw122 hlw122 hRw122 => ?_)
          show h_T g_P (g_Y ns) 56 180 [(0, .ref 63)] [] sq118 _
          exact h_wk [(0, .ref 63)] ⟨rfl, trivial⟩ (kx1 _ _ Isq118 Itq118 Fsq118 Ftq118 (by omega) (by omega) (by omega) (by omega) (by omega) ⟨by omega, by omega, by omega, by omega⟩ _ _ (h_al_ok ⟨rfl, trivial⟩ hlw122) hRw122)
    · refine d_toM (g_inj ns) hl2 hR2 (fun lvw123 memw123 hlw123 hRw123 => ?_)
      show h_T g_P (g_Y ns) 154 5 [(0, .ref 98), (1, .int y1)] [] σ2 _
      refine h_iload_n (pc' := 6) rfl rfl rfl ?_
      refine h_i2l (pc' := 7) rfl rfl hy1 (fun z124 hz124 => ?_)
      refine h_lconst (pc' := 8) (x := (Int64.ofInt 0)) rfl rfl rfl ?_
      refine h_ldc2 (pc' := 11) (x := (Int64.ofInt 7)) rfl rfl rfl ?_
      refine h_calls (pc' := 14) (M := [(0, .long z124), (2, .long (Int64.ofInt 0)), (4, .long (Int64.ofInt 7))]) rfl rfl rfl rfl rfl rfl ?_
      refine h_lload_n (pc' := 1) rfl rfl rfl ?_
      refine h_lload_n (pc' := 2) rfl rfl rfl ?_
      refine h_lcmp (pc' := 3) rfl rfl hz124 cl_0 (fun z125 hz125 => ?_)
      refine h_zlt (tg := 17) (pc' := 6) rfl rfl rfl rfl (fun c126 => ?_) (fun c126 => ?_)
      · replace c126 := (h_lcr hz125).1 c126
        clear hz125
        refine h_iconst (pc' := 18) (x := (Int32.ofInt 0)) rfl rfl rfl ?_
        refine h_zret rfl rfl ci_0 (by omega) (h_Kv ?_)
        clear hz124
        refine h_zne (tg := 23) (pc' := 17) rfl rfl rfl ci_0 (fun c127 => absurd c127 (by omega)) (fun c127 => ?_)
        refine h_aload_n (pc' := 18) rfl rfl rfl ?_
        refine h_iconst (pc' := 19) (x := (Int32.ofInt 2)) rfl rfl rfl ?_
        refine h_call (sp := false) (pc' := 22) (M := [(0, .ref 98), (1, .int (Int32.ofInt 2))]) rfl rfl rfl rfl rfl rfl rfl rfl ?_
        refine h_aload_n (pc' := 1) rfl rfl rfl ?_
        refine h_getI (pc' := 4) (v := σ2 98 13) rfl rfl rfl rfl rfl rfl (fun z128 hz128 => ?_)
        have tz128 := tf_98_13 hI2
        refine h_zne (tg := 20) (pc' := 7) rfl rfl rfl hz128 (fun c129 => absurd c129 (by omega)) (fun c129 => ?_)
        clear hz128
        refine h_aload_n (pc' := 8) rfl rfl rfl ?_
        refine h_iload_n (pc' := 9) rfl rfl rfl ?_
        refine h_put (pc' := 12) rfl rfl rfl rfl rfl rfl ci_2 rfl (h_fgt (E := fun s => s 98 15 = σ2 98 15 ∧ s 98 16 = σ2 98 16 ∧ s 98 17 = σ2 98 17 ∧ s 98 18 = σ2 98 18 ∧ s 98 13 = 2 ∧ s 98 14 = σ2 98 14 ∧ s 98 5 = σ2 98 5 ∧ s 98 6 = σ2 98 6 ∧ s 98 7 = σ2 98 7 ∧ s 98 8 = σ2 98 8 ∧ s 98 9 = σ2 98 9 ∧ s 101 18 = σ2 101 18 ∧ s 101 25 = σ2 101 25 ∧ s 101 43 = σ2 101 43 ∧ s = h_up σ2 98 13 2) _ (if_98_13 hI2 (by omega)) (F2.up rfl) ⟨rfl, rfl, rfl, rfl, rfl, rfl, rfl, rfl, rfl, rfl, rfl, rfl, rfl, rfl, rfl⟩ (fun s130 Is130 Fs130 (es130 : s130 98 15 = σ2 98 15 ∧ s130 98 16 = σ2 98 16 ∧ s130 98 17 = σ2 98 17 ∧ s130 98 18 = σ2 98 18 ∧ s130 98 13 = 2 ∧ s130 98 14 = σ2 98 14 ∧ s130 98 5 = σ2 98 5 ∧ s130 98 6 = σ2 98 6 ∧ s130 98 7 = σ2 98 7 ∧ s130 98 8 = σ2 98 8 ∧ s130 98 9 = σ2 98 9 ∧ s130 101 18 = σ2 101 18 ∧ s130 101 25 = σ2 101 25 ∧ s130 101 43 = σ2 101 43 ∧ s130 = h_up σ2 98 13 2) => ?_))
        refine h_aload_n (pc' := 13) rfl rfl rfl ?_
        refine h_aload_n (pc' := 14) rfl rfl rfl ?_
        refine h_getI (pc' := 17) (v := σ2 98 16) rfl rfl rfl rfl rfl es130.2.1 (fun z131 hz131 => ?_)
        have tz131 := tf_98_16 hI2
        refine h_put (pc' := 20) rfl rfl rfl rfl rfl rfl hz131 rfl (h_fgt (E := fun s => s 98 15 = σ2 98 15 ∧ s 98 16 = σ2 98 16 ∧ s 98 17 = σ2 98 17 ∧ s 98 18 = σ2 98 18 ∧ s 98 13 = 2 ∧ s 98 14 = (σ2 98 16) ∧ s 98 5 = σ2 98 5 ∧ s 98 6 = σ2 98 6 ∧ s 98 7 = σ2 98 7 ∧ s 98 8 = σ2 98 8 ∧ s 98 9 = σ2 98 9 ∧ s 101 18 = σ2 101 18 ∧ s 101 25 = σ2 101 25 ∧ s 101 43 = σ2 101 43 ∧ s = h_up s130 98 14 (σ2 98 16)) _ (if_98_14 Is130 (h_rgv hz131)) (Fs130.up rfl) ⟨es130.1, es130.2.1, es130.2.2.1, es130.2.2.2.1, es130.2.2.2.2.1, rfl, es130.2.2.2.2.2.2.1, es130.2.2.2.2.2.2.2.1, es130.2.2.2.2.2.2.2.2.1, es130.2.2.2.2.2.2.2.2.2.1, es130.2.2.2.2.2.2.2.2.2.2.1, es130.2.2.2.2.2.2.2.2.2.2.2.1, es130.2.2.2.2.2.2.2.2.2.2.2.2.1, es130.2.2.2.2.2.2.2.2.2.2.2.2.2.1, rfl⟩ (fun s132 Is132 Fs132 (es132 : s132 98 15 = σ2 98 15 ∧ s132 98 16 = σ2 98 16 ∧ s132 98 17 = σ2 98 17 ∧ s132 98 18 = σ2 98 18 ∧ s132 98 13 = 2 ∧ s132 98 14 = (σ2 98 16) ∧ s132 98 5 = σ2 98 5 ∧ s132 98 6 = σ2 98 6 ∧ s132 98 7 = σ2 98 7 ∧ s132 98 8 = σ2 98 8 ∧ s132 98 9 = σ2 98 9 ∧ s132 101 18 = σ2 101 18 ∧ s132 101 25 = σ2 101 25 ∧ s132 101 43 = σ2 101 43 ∧ s132 = h_up s130 98 14 (σ2 98 16)) => ?_))
        refine h_vret rfl rfl (h_Kn ?_)
        exfalso
        omega
      · replace c126 := (h_lcr hz125).2.1 c126
        clear hz125
        refine h_lload_n (pc' := 7) rfl rfl rfl ?_
        refine h_lload (pc' := 9) rfl rfl rfl ?_
        refine h_lcmp (pc' := 10) rfl rfl hz124 cl_7 (fun z133 hz133 => ?_)
        refine h_zgt (tg := 17) (pc' := 13) rfl rfl rfl rfl (fun c134 => absurd c134 (by omega)) (fun c134 => ?_)
        replace c134 := (h_lcr hz133).2.2.1 c134
        clear hz133
        refine h_iconst (pc' := 14) (x := (Int32.ofInt 1)) rfl rfl rfl ?_
        refine h_goto (pc' := 18) rfl rfl ?_
        refine h_zret rfl rfl ci_1 (by omega) (h_Kv ?_)
        clear hz124
        refine h_zne (tg := 23) (pc' := 17) rfl rfl rfl ci_1 (fun c135 => ?_) (fun c135 => absurd c135 (by omega))
        refine d_toL (g_inj ns) hlw123 hRw123 (fun lvw136 memw136 hlw136 hRw136 => ?_)
        show h_T g_P (g_Y ns) 56 145 [(0, .ref 63), (1, .int x1)] [] σ1 _
        refine h_wk [(0, .ref 63), (1, .int x1)] ⟨rfl, rfl, trivial⟩ (ls_one hI1 hI2 (hTL.fr (F1.mono rfl) (F2.mono rfl)) x1 _ hx1 y1 _ hy1 (by omega) (by omega) (by omega) (by omega) (by omega) (by omega) (by omega) (by omega) (by omega) (by omega) (pr10) (by omega) (by omega) ⟨by omega, by omega⟩ (fun sq137 tq137 Isq137 Itq137 Gsq137 Gtq137   yq137_0 yq137_1 yq137_2 yq137_3 yq137_4 yq137_5 pcq137 lvq137 memq137 hlq137 hRq137 => ?_) (fun sq138 tq138 Isq138 Itq138 Gsq138 Gtq138   yq138_0 yq138_1 yq138_2 yq138_3 yq138_4 pcq138 lvq138 memq138 hlq138 hRq138 => ?_) _ _ (h_al_ok ⟨rfl, rfl, trivial⟩ hlw136) hRw136)
        · have Fsq137 := (Gsq137.mono (B := k_pl) rfl).tr F1
          have Ftq137 := (Gtq137.mono (B := k_pm) rfl).tr F2
          have Isq137 := Isq137
          have Itq137 := Itq137
          have Gsq137 := Gsq137
          have Gtq137 := Gtq137
          have esq137_6 : sq137 64 1 = σ1 64 1 := (Gsq137 64 1 rfl).trans rfl
          show h_T g_P (g_Y ns) 56 180 [(0, .ref 63)] [] sq137 _
          refine d_toM (g_inj ns) hlq137 hRq137 (fun lvw139 memw139 hlw139 hRw139 => ?_)
          show h_T g_P (g_Y ns) 154 165 [(0, .ref 98)] [] tq137 _
          refine d_toL (g_inj ns) hlw139 hRw139 (fun lvw140 memw140 hlw140 hRw140 => ?_)
          show h_T g_P (g_Y ns) 56 180 [(0, .ref 63)] [] sq137 _
          exact h_wk [(0, .ref 63)] ⟨rfl, trivial⟩ (kx0 _ _ Isq137 Itq137 Fsq137 Ftq137 (by omega) (by omega) (by omega) (by omega) (by omega) (yq137_5) (pcq137.elim (fun pcq137 => (Or.inl ⟨by omega, by omega, by omega, by omega⟩)) (fun pcq137 => (Or.inr ⟨by omega, by omega, by omega, by omega, by omega, by omega⟩))) _ _ (h_al_ok ⟨rfl, trivial⟩ hlw140) hRw140)
        · have Fsq138 := (Gsq138.mono (B := k_pl) rfl).tr F1
          have Ftq138 := (Gtq138.mono (B := k_pm) rfl).tr F2
          have Isq138 := Isq138
          have Itq138 := Itq138
          have Gsq138 := Gsq138
          have Gtq138 := Gtq138
          have esq138_6 : sq138 64 1 = σ1 64 1 := (Gsq138 64 1 rfl).trans rfl
          show h_T g_P (g_Y ns) 56 180 [(0, .ref 63)] [] sq138 _
          refine d_toM (g_inj ns) hlq138 hRq138 (fun lvw141 memw141 hlw141 hRw141 => ?_)
          show h_T g_P (g_Y ns) 154 139 [(0, .ref 98)] [] tq138 _
          refine d_toL (g_inj ns) hlw141 hRw141 (fun lvw142 memw142 hlw142 hRw142 => ?_)
          show h_T g_P (g_Y ns) 56 180 [(0, .ref 63)] [] sq138 _
          exact h_wk [(0, .ref 63)] ⟨rfl, trivial⟩ (kx1 _ _ Isq138 Itq138 Fsq138 Ftq138 (by omega) (by omega) (by omega) (by omega) (by omega) ⟨by omega, by omega, by omega, by omega⟩ _ _ (h_al_ok ⟨rfl, trivial⟩ hlw142) hRw142)
    · refine d_toM (g_inj ns) hl2 hR2 (fun lvw143 memw143 hlw143 hRw143 => ?_)
      show h_T g_P (g_Y ns) 154 5 [(0, .ref 98), (1, .int y1)] [] σ2 _
      refine h_iload_n (pc' := 6) rfl rfl rfl ?_
      refine h_i2l (pc' := 7) rfl rfl hy1 (fun z144 hz144 => ?_)
      refine h_lconst (pc' := 8) (x := (Int64.ofInt 0)) rfl rfl rfl ?_
      refine h_ldc2 (pc' := 11) (x := (Int64.ofInt 7)) rfl rfl rfl ?_
      refine h_calls (pc' := 14) (M := [(0, .long z144), (2, .long (Int64.ofInt 0)), (4, .long (Int64.ofInt 7))]) rfl rfl rfl rfl rfl rfl ?_
      refine h_lload_n (pc' := 1) rfl rfl rfl ?_
      refine h_lload_n (pc' := 2) rfl rfl rfl ?_
      refine h_lcmp (pc' := 3) rfl rfl hz144 cl_0 (fun z145 hz145 => ?_)
      refine h_zlt (tg := 17) (pc' := 6) rfl rfl rfl rfl (fun c146 => ?_) (fun c146 => ?_)
      · replace c146 := (h_lcr hz145).1 c146
        clear hz145
        refine h_iconst (pc' := 18) (x := (Int32.ofInt 0)) rfl rfl rfl ?_
        refine h_zret rfl rfl ci_0 (by omega) (h_Kv ?_)
        clear hz144
        refine h_zne (tg := 23) (pc' := 17) rfl rfl rfl ci_0 (fun c147 => absurd c147 (by omega)) (fun c147 => ?_)
        refine h_aload_n (pc' := 18) rfl rfl rfl ?_
        refine h_iconst (pc' := 19) (x := (Int32.ofInt 2)) rfl rfl rfl ?_
        refine h_call (sp := false) (pc' := 22) (M := [(0, .ref 98), (1, .int (Int32.ofInt 2))]) rfl rfl rfl rfl rfl rfl rfl rfl ?_
        refine h_aload_n (pc' := 1) rfl rfl rfl ?_
        refine h_getI (pc' := 4) (v := σ2 98 13) rfl rfl rfl rfl rfl rfl (fun z148 hz148 => ?_)
        have tz148 := tf_98_13 hI2
        refine h_zne (tg := 20) (pc' := 7) rfl rfl rfl hz148 (fun c149 => absurd c149 (by omega)) (fun c149 => ?_)
        clear hz148
        refine h_aload_n (pc' := 8) rfl rfl rfl ?_
        refine h_iload_n (pc' := 9) rfl rfl rfl ?_
        refine h_put (pc' := 12) rfl rfl rfl rfl rfl rfl ci_2 rfl (h_fgt (E := fun s => s 98 15 = σ2 98 15 ∧ s 98 16 = σ2 98 16 ∧ s 98 17 = σ2 98 17 ∧ s 98 18 = σ2 98 18 ∧ s 98 13 = 2 ∧ s 98 14 = σ2 98 14 ∧ s 98 5 = σ2 98 5 ∧ s 98 6 = σ2 98 6 ∧ s 98 7 = σ2 98 7 ∧ s 98 8 = σ2 98 8 ∧ s 98 9 = σ2 98 9 ∧ s 101 18 = σ2 101 18 ∧ s 101 25 = σ2 101 25 ∧ s 101 43 = σ2 101 43 ∧ s = h_up σ2 98 13 2) _ (if_98_13 hI2 (by omega)) (F2.up rfl) ⟨rfl, rfl, rfl, rfl, rfl, rfl, rfl, rfl, rfl, rfl, rfl, rfl, rfl, rfl, rfl⟩ (fun s150 Is150 Fs150 (es150 : s150 98 15 = σ2 98 15 ∧ s150 98 16 = σ2 98 16 ∧ s150 98 17 = σ2 98 17 ∧ s150 98 18 = σ2 98 18 ∧ s150 98 13 = 2 ∧ s150 98 14 = σ2 98 14 ∧ s150 98 5 = σ2 98 5 ∧ s150 98 6 = σ2 98 6 ∧ s150 98 7 = σ2 98 7 ∧ s150 98 8 = σ2 98 8 ∧ s150 98 9 = σ2 98 9 ∧ s150 101 18 = σ2 101 18 ∧ s150 101 25 = σ2 101 25 ∧ s150 101 43 = σ2 101 43 ∧ s150 = h_up σ2 98 13 2) => ?_))
        refine h_aload_n (pc' := 13) rfl rfl rfl ?_
        refine h_aload_n (pc' := 14) rfl rfl rfl ?_
        refine h_getI (pc' := 17) (v := σ2 98 16) rfl rfl rfl rfl rfl es150.2.1 (fun z151 hz151 => ?_)
        have tz151 := tf_98_16 hI2
        refine h_put (pc' := 20) rfl rfl rfl rfl rfl rfl hz151 rfl (h_fgt (E := fun s => s 98 15 = σ2 98 15 ∧ s 98 16 = σ2 98 16 ∧ s 98 17 = σ2 98 17 ∧ s 98 18 = σ2 98 18 ∧ s 98 13 = 2 ∧ s 98 14 = (σ2 98 16) ∧ s 98 5 = σ2 98 5 ∧ s 98 6 = σ2 98 6 ∧ s 98 7 = σ2 98 7 ∧ s 98 8 = σ2 98 8 ∧ s 98 9 = σ2 98 9 ∧ s 101 18 = σ2 101 18 ∧ s 101 25 = σ2 101 25 ∧ s 101 43 = σ2 101 43 ∧ s = h_up s150 98 14 (σ2 98 16)) _ (if_98_14 Is150 (h_rgv hz151)) (Fs150.up rfl) ⟨es150.1, es150.2.1, es150.2.2.1, es150.2.2.2.1, es150.2.2.2.2.1, rfl, es150.2.2.2.2.2.2.1, es150.2.2.2.2.2.2.2.1, es150.2.2.2.2.2.2.2.2.1, es150.2.2.2.2.2.2.2.2.2.1, es150.2.2.2.2.2.2.2.2.2.2.1, es150.2.2.2.2.2.2.2.2.2.2.2.1, es150.2.2.2.2.2.2.2.2.2.2.2.2.1, es150.2.2.2.2.2.2.2.2.2.2.2.2.2.1, rfl⟩ (fun s152 Is152 Fs152 (es152 : s152 98 15 = σ2 98 15 ∧ s152 98 16 = σ2 98 16 ∧ s152 98 17 = σ2 98 17 ∧ s152 98 18 = σ2 98 18 ∧ s152 98 13 = 2 ∧ s152 98 14 = (σ2 98 16) ∧ s152 98 5 = σ2 98 5 ∧ s152 98 6 = σ2 98 6 ∧ s152 98 7 = σ2 98 7 ∧ s152 98 8 = σ2 98 8 ∧ s152 98 9 = σ2 98 9 ∧ s152 101 18 = σ2 101 18 ∧ s152 101 25 = σ2 101 25 ∧ s152 101 43 = σ2 101 43 ∧ s152 = h_up s150 98 14 (σ2 98 16)) => ?_))
        refine h_vret rfl rfl (h_Kn ?_)
        exfalso
        omega
      · replace c146 := (h_lcr hz145).2.1 c146
        clear hz145
        refine h_lload_n (pc' := 7) rfl rfl rfl ?_
        refine h_lload (pc' := 9) rfl rfl rfl ?_
        refine h_lcmp (pc' := 10) rfl rfl hz144 cl_7 (fun z153 hz153 => ?_)
        refine h_zgt (tg := 17) (pc' := 13) rfl rfl rfl rfl (fun c154 => absurd c154 (by omega)) (fun c154 => ?_)
        replace c154 := (h_lcr hz153).2.2.1 c154
        clear hz153
        refine h_iconst (pc' := 14) (x := (Int32.ofInt 1)) rfl rfl rfl ?_
        refine h_goto (pc' := 18) rfl rfl ?_
        refine h_zret rfl rfl ci_1 (by omega) (h_Kv ?_)
        clear hz144
        refine h_zne (tg := 23) (pc' := 17) rfl rfl rfl ci_1 (fun c155 => ?_) (fun c155 => absurd c155 (by omega))
        refine d_toL (g_inj ns) hlw143 hRw143 (fun lvw156 memw156 hlw156 hRw156 => ?_)
        show h_T g_P (g_Y ns) 56 145 [(0, .ref 63), (1, .int x1)] [] σ1 _
        refine h_wk [(0, .ref 63), (1, .int x1)] ⟨rfl, rfl, trivial⟩ (ls_one hI1 hI2 (hTL.fr (F1.mono rfl) (F2.mono rfl)) x1 _ hx1 y1 _ hy1 (by omega) (by omega) (by omega) (by omega) (by omega) (by omega) (by omega) (by omega) (by omega) (by omega) (pr10) (by omega) (by omega) ⟨by omega, by omega⟩ (fun sq157 tq157 Isq157 Itq157 Gsq157 Gtq157   yq157_0 yq157_1 yq157_2 yq157_3 yq157_4 yq157_5 pcq157 lvq157 memq157 hlq157 hRq157 => ?_) (fun sq158 tq158 Isq158 Itq158 Gsq158 Gtq158   yq158_0 yq158_1 yq158_2 yq158_3 yq158_4 pcq158 lvq158 memq158 hlq158 hRq158 => ?_) _ _ (h_al_ok ⟨rfl, rfl, trivial⟩ hlw156) hRw156)
        · have Fsq157 := (Gsq157.mono (B := k_pl) rfl).tr F1
          have Ftq157 := (Gtq157.mono (B := k_pm) rfl).tr F2
          have Isq157 := Isq157
          have Itq157 := Itq157
          have Gsq157 := Gsq157
          have Gtq157 := Gtq157
          have esq157_6 : sq157 64 1 = σ1 64 1 := (Gsq157 64 1 rfl).trans rfl
          show h_T g_P (g_Y ns) 56 180 [(0, .ref 63)] [] sq157 _
          refine d_toM (g_inj ns) hlq157 hRq157 (fun lvw159 memw159 hlw159 hRw159 => ?_)
          show h_T g_P (g_Y ns) 154 165 [(0, .ref 98)] [] tq157 _
          refine d_toL (g_inj ns) hlw159 hRw159 (fun lvw160 memw160 hlw160 hRw160 => ?_)
          show h_T g_P (g_Y ns) 56 180 [(0, .ref 63)] [] sq157 _
          exact h_wk [(0, .ref 63)] ⟨rfl, trivial⟩ (kx0 _ _ Isq157 Itq157 Fsq157 Ftq157 (by omega) (by omega) (by omega) (by omega) (by omega) (yq157_5) (pcq157.elim (fun pcq157 => (Or.inl ⟨by omega, by omega, by omega, by omega⟩)) (fun pcq157 => (Or.inr ⟨by omega, by omega, by omega, by omega, by omega, by omega⟩))) _ _ (h_al_ok ⟨rfl, trivial⟩ hlw160) hRw160)
        · have Fsq158 := (Gsq158.mono (B := k_pl) rfl).tr F1
          have Ftq158 := (Gtq158.mono (B := k_pm) rfl).tr F2
          have Isq158 := Isq158
          have Itq158 := Itq158
          have Gsq158 := Gsq158
          have Gtq158 := Gtq158
          have esq158_6 : sq158 64 1 = σ1 64 1 := (Gsq158 64 1 rfl).trans rfl
          show h_T g_P (g_Y ns) 56 180 [(0, .ref 63)] [] sq158 _
          refine d_toM (g_inj ns) hlq158 hRq158 (fun lvw161 memw161 hlw161 hRw161 => ?_)
          show h_T g_P (g_Y ns) 154 139 [(0, .ref 98)] [] tq158 _
          refine d_toL (g_inj ns) hlw161 hRw161 (fun lvw162 memw162 hlw162 hRw162 => ?_)
          show h_T g_P (g_Y ns) 56 180 [(0, .ref 63)] [] sq158 _
          exact h_wk [(0, .ref 63)] ⟨rfl, trivial⟩ (kx1 _ _ Isq158 Itq158 Fsq158 Ftq158 (by omega) (by omega) (by omega) (by omega) (by omega) ⟨by omega, by omega, by omega, by omega⟩ _ _ (h_al_ok ⟨rfl, trivial⟩ hlw162) hRw162)
    · refine d_toM (g_inj ns) hl2 hR2 (fun lvw163 memw163 hlw163 hRw163 => ?_)
      show h_T g_P (g_Y ns) 154 5 [(0, .ref 98), (1, .int y1)] [] σ2 _
      refine h_iload_n (pc' := 6) rfl rfl rfl ?_
      refine h_i2l (pc' := 7) rfl rfl hy1 (fun z164 hz164 => ?_)
      refine h_lconst (pc' := 8) (x := (Int64.ofInt 0)) rfl rfl rfl ?_
      refine h_ldc2 (pc' := 11) (x := (Int64.ofInt 7)) rfl rfl rfl ?_
      refine h_calls (pc' := 14) (M := [(0, .long z164), (2, .long (Int64.ofInt 0)), (4, .long (Int64.ofInt 7))]) rfl rfl rfl rfl rfl rfl ?_
      refine h_lload_n (pc' := 1) rfl rfl rfl ?_
      refine h_lload_n (pc' := 2) rfl rfl rfl ?_
      refine h_lcmp (pc' := 3) rfl rfl hz164 cl_0 (fun z165 hz165 => ?_)
      refine h_zlt (tg := 17) (pc' := 6) rfl rfl rfl rfl (fun c166 => ?_) (fun c166 => ?_)
      · replace c166 := (h_lcr hz165).1 c166
        clear hz165
        refine h_iconst (pc' := 18) (x := (Int32.ofInt 0)) rfl rfl rfl ?_
        refine h_zret rfl rfl ci_0 (by omega) (h_Kv ?_)
        clear hz164
        refine h_zne (tg := 23) (pc' := 17) rfl rfl rfl ci_0 (fun c167 => absurd c167 (by omega)) (fun c167 => ?_)
        refine h_aload_n (pc' := 18) rfl rfl rfl ?_
        refine h_iconst (pc' := 19) (x := (Int32.ofInt 2)) rfl rfl rfl ?_
        refine h_call (sp := false) (pc' := 22) (M := [(0, .ref 98), (1, .int (Int32.ofInt 2))]) rfl rfl rfl rfl rfl rfl rfl rfl ?_
        refine h_aload_n (pc' := 1) rfl rfl rfl ?_
        refine h_getI (pc' := 4) (v := σ2 98 13) rfl rfl rfl rfl rfl rfl (fun z168 hz168 => ?_)
        have tz168 := tf_98_13 hI2
        refine h_zne (tg := 20) (pc' := 7) rfl rfl rfl hz168 (fun c169 => absurd c169 (by omega)) (fun c169 => ?_)
        clear hz168
        refine h_aload_n (pc' := 8) rfl rfl rfl ?_
        refine h_iload_n (pc' := 9) rfl rfl rfl ?_
        refine h_put (pc' := 12) rfl rfl rfl rfl rfl rfl ci_2 rfl (h_fgt (E := fun s => s 98 15 = σ2 98 15 ∧ s 98 16 = σ2 98 16 ∧ s 98 17 = σ2 98 17 ∧ s 98 18 = σ2 98 18 ∧ s 98 13 = 2 ∧ s 98 14 = σ2 98 14 ∧ s 98 5 = σ2 98 5 ∧ s 98 6 = σ2 98 6 ∧ s 98 7 = σ2 98 7 ∧ s 98 8 = σ2 98 8 ∧ s 98 9 = σ2 98 9 ∧ s 101 18 = σ2 101 18 ∧ s 101 25 = σ2 101 25 ∧ s 101 43 = σ2 101 43 ∧ s = h_up σ2 98 13 2) _ (if_98_13 hI2 (by omega)) (F2.up rfl) ⟨rfl, rfl, rfl, rfl, rfl, rfl, rfl, rfl, rfl, rfl, rfl, rfl, rfl, rfl, rfl⟩ (fun s170 Is170 Fs170 (es170 : s170 98 15 = σ2 98 15 ∧ s170 98 16 = σ2 98 16 ∧ s170 98 17 = σ2 98 17 ∧ s170 98 18 = σ2 98 18 ∧ s170 98 13 = 2 ∧ s170 98 14 = σ2 98 14 ∧ s170 98 5 = σ2 98 5 ∧ s170 98 6 = σ2 98 6 ∧ s170 98 7 = σ2 98 7 ∧ s170 98 8 = σ2 98 8 ∧ s170 98 9 = σ2 98 9 ∧ s170 101 18 = σ2 101 18 ∧ s170 101 25 = σ2 101 25 ∧ s170 101 43 = σ2 101 43 ∧ s170 = h_up σ2 98 13 2) => ?_))
        refine h_aload_n (pc' := 13) rfl rfl rfl ?_
        refine h_aload_n (pc' := 14) rfl rfl rfl ?_
        refine h_getI (pc' := 17) (v := σ2 98 16) rfl rfl rfl rfl rfl es170.2.1 (fun z171 hz171 => ?_)
        have tz171 := tf_98_16 hI2
        refine h_put (pc' := 20) rfl rfl rfl rfl rfl rfl hz171 rfl (h_fgt (E := fun s => s 98 15 = σ2 98 15 ∧ s 98 16 = σ2 98 16 ∧ s 98 17 = σ2 98 17 ∧ s 98 18 = σ2 98 18 ∧ s 98 13 = 2 ∧ s 98 14 = (σ2 98 16) ∧ s 98 5 = σ2 98 5 ∧ s 98 6 = σ2 98 6 ∧ s 98 7 = σ2 98 7 ∧ s 98 8 = σ2 98 8 ∧ s 98 9 = σ2 98 9 ∧ s 101 18 = σ2 101 18 ∧ s 101 25 = σ2 101 25 ∧ s 101 43 = σ2 101 43 ∧ s = h_up s170 98 14 (σ2 98 16)) _ (if_98_14 Is170 (h_rgv hz171)) (Fs170.up rfl) ⟨es170.1, es170.2.1, es170.2.2.1, es170.2.2.2.1, es170.2.2.2.2.1, rfl, es170.2.2.2.2.2.2.1, es170.2.2.2.2.2.2.2.1, es170.2.2.2.2.2.2.2.2.1, es170.2.2.2.2.2.2.2.2.2.1, es170.2.2.2.2.2.2.2.2.2.2.1, es170.2.2.2.2.2.2.2.2.2.2.2.1, es170.2.2.2.2.2.2.2.2.2.2.2.2.1, es170.2.2.2.2.2.2.2.2.2.2.2.2.2.1, rfl⟩ (fun s172 Is172 Fs172 (es172 : s172 98 15 = σ2 98 15 ∧ s172 98 16 = σ2 98 16 ∧ s172 98 17 = σ2 98 17 ∧ s172 98 18 = σ2 98 18 ∧ s172 98 13 = 2 ∧ s172 98 14 = (σ2 98 16) ∧ s172 98 5 = σ2 98 5 ∧ s172 98 6 = σ2 98 6 ∧ s172 98 7 = σ2 98 7 ∧ s172 98 8 = σ2 98 8 ∧ s172 98 9 = σ2 98 9 ∧ s172 101 18 = σ2 101 18 ∧ s172 101 25 = σ2 101 25 ∧ s172 101 43 = σ2 101 43 ∧ s172 = h_up s170 98 14 (σ2 98 16)) => ?_))
        refine h_vret rfl rfl (h_Kn ?_)
        exfalso
        omega
      · replace c166 := (h_lcr hz165).2.1 c166
        clear hz165
        refine h_lload_n (pc' := 7) rfl rfl rfl ?_
        refine h_lload (pc' := 9) rfl rfl rfl ?_
        refine h_lcmp (pc' := 10) rfl rfl hz164 cl_7 (fun z173 hz173 => ?_)
        refine h_zgt (tg := 17) (pc' := 13) rfl rfl rfl rfl (fun c174 => absurd c174 (by omega)) (fun c174 => ?_)
        replace c174 := (h_lcr hz173).2.2.1 c174
        clear hz173
        refine h_iconst (pc' := 14) (x := (Int32.ofInt 1)) rfl rfl rfl ?_
        refine h_goto (pc' := 18) rfl rfl ?_
        refine h_zret rfl rfl ci_1 (by omega) (h_Kv ?_)
        clear hz164
        refine h_zne (tg := 23) (pc' := 17) rfl rfl rfl ci_1 (fun c175 => ?_) (fun c175 => absurd c175 (by omega))
        refine d_toL (g_inj ns) hlw163 hRw163 (fun lvw176 memw176 hlw176 hRw176 => ?_)
        show h_T g_P (g_Y ns) 56 145 [(0, .ref 63), (1, .int x1)] [] σ1 _
        refine h_wk [(0, .ref 63), (1, .int x1)] ⟨rfl, rfl, trivial⟩ (ls_one hI1 hI2 (hTL.fr (F1.mono rfl) (F2.mono rfl)) x1 _ hx1 y1 _ hy1 (by omega) (by omega) (by omega) (by omega) (by omega) (by omega) (by omega) (by omega) (by omega) (by omega) (pr10) (by omega) (by omega) ⟨by omega, by omega⟩ (fun sq177 tq177 Isq177 Itq177 Gsq177 Gtq177   yq177_0 yq177_1 yq177_2 yq177_3 yq177_4 yq177_5 pcq177 lvq177 memq177 hlq177 hRq177 => ?_) (fun sq178 tq178 Isq178 Itq178 Gsq178 Gtq178   yq178_0 yq178_1 yq178_2 yq178_3 yq178_4 pcq178 lvq178 memq178 hlq178 hRq178 => ?_) _ _ (h_al_ok ⟨rfl, rfl, trivial⟩ hlw176) hRw176)
        · have Fsq177 := (Gsq177.mono (B := k_pl) rfl).tr F1
          have Ftq177 := (Gtq177.mono (B := k_pm) rfl).tr F2
          have Isq177 := Isq177
          have Itq177 := Itq177
          have Gsq177 := Gsq177
          have Gtq177 := Gtq177
          have esq177_6 : sq177 64 1 = σ1 64 1 := (Gsq177 64 1 rfl).trans rfl
          show h_T g_P (g_Y ns) 56 180 [(0, .ref 63)] [] sq177 _
          refine d_toM (g_inj ns) hlq177 hRq177 (fun lvw179 memw179 hlw179 hRw179 => ?_)
          show h_T g_P (g_Y ns) 154 165 [(0, .ref 98)] [] tq177 _
          refine d_toL (g_inj ns) hlw179 hRw179 (fun lvw180 memw180 hlw180 hRw180 => ?_)
          show h_T g_P (g_Y ns) 56 180 [(0, .ref 63)] [] sq177 _
          exact h_wk [(0, .ref 63)] ⟨rfl, trivial⟩ (kx0 _ _ Isq177 Itq177 Fsq177 Ftq177 (by omega) (by omega) (by omega) (by omega) (by omega) (yq177_5) (pcq177.elim (fun pcq177 => (Or.inl ⟨by omega, by omega, by omega, by omega⟩)) (fun pcq177 => (Or.inr ⟨by omega, by omega, by omega, by omega, by omega, by omega⟩))) _ _ (h_al_ok ⟨rfl, trivial⟩ hlw180) hRw180)
        · have Fsq178 := (Gsq178.mono (B := k_pl) rfl).tr F1
          have Ftq178 := (Gtq178.mono (B := k_pm) rfl).tr F2
          have Isq178 := Isq178
          have Itq178 := Itq178
          have Gsq178 := Gsq178
          have Gtq178 := Gtq178
          have esq178_6 : sq178 64 1 = σ1 64 1 := (Gsq178 64 1 rfl).trans rfl
          show h_T g_P (g_Y ns) 56 180 [(0, .ref 63)] [] sq178 _
          refine d_toM (g_inj ns) hlq178 hRq178 (fun lvw181 memw181 hlw181 hRw181 => ?_)
          show h_T g_P (g_Y ns) 154 139 [(0, .ref 98)] [] tq178 _
          refine d_toL (g_inj ns) hlw181 hRw181 (fun lvw182 memw182 hlw182 hRw182 => ?_)
          show h_T g_P (g_Y ns) 56 180 [(0, .ref 63)] [] sq178 _
          exact h_wk [(0, .ref 63)] ⟨rfl, trivial⟩ (kx1 _ _ Isq178 Itq178 Fsq178 Ftq178 (by omega) (by omega) (by omega) (by omega) (by omega) ⟨by omega, by omega, by omega, by omega⟩ _ _ (h_al_ok ⟨rfl, trivial⟩ hlw182) hRw182)
    · refine d_toM (g_inj ns) hl2 hR2 (fun lvw183 memw183 hlw183 hRw183 => ?_)
      show h_T g_P (g_Y ns) 154 5 [(0, .ref 98), (1, .int y1)] [] σ2 _
      refine h_iload_n (pc' := 6) rfl rfl rfl ?_
      refine h_i2l (pc' := 7) rfl rfl hy1 (fun z184 hz184 => ?_)
      refine h_lconst (pc' := 8) (x := (Int64.ofInt 0)) rfl rfl rfl ?_
      refine h_ldc2 (pc' := 11) (x := (Int64.ofInt 7)) rfl rfl rfl ?_
      refine h_calls (pc' := 14) (M := [(0, .long z184), (2, .long (Int64.ofInt 0)), (4, .long (Int64.ofInt 7))]) rfl rfl rfl rfl rfl rfl ?_
      refine h_lload_n (pc' := 1) rfl rfl rfl ?_
      refine h_lload_n (pc' := 2) rfl rfl rfl ?_
      refine h_lcmp (pc' := 3) rfl rfl hz184 cl_0 (fun z185 hz185 => ?_)
      refine h_zlt (tg := 17) (pc' := 6) rfl rfl rfl rfl (fun c186 => ?_) (fun c186 => ?_)
      · replace c186 := (h_lcr hz185).1 c186
        clear hz185
        refine h_iconst (pc' := 18) (x := (Int32.ofInt 0)) rfl rfl rfl ?_
        refine h_zret rfl rfl ci_0 (by omega) (h_Kv ?_)
        clear hz184
        refine h_zne (tg := 23) (pc' := 17) rfl rfl rfl ci_0 (fun c187 => absurd c187 (by omega)) (fun c187 => ?_)
        refine h_aload_n (pc' := 18) rfl rfl rfl ?_
        refine h_iconst (pc' := 19) (x := (Int32.ofInt 2)) rfl rfl rfl ?_
        refine h_call (sp := false) (pc' := 22) (M := [(0, .ref 98), (1, .int (Int32.ofInt 2))]) rfl rfl rfl rfl rfl rfl rfl rfl ?_
        refine h_aload_n (pc' := 1) rfl rfl rfl ?_
        refine h_getI (pc' := 4) (v := σ2 98 13) rfl rfl rfl rfl rfl rfl (fun z188 hz188 => ?_)
        have tz188 := tf_98_13 hI2
        refine h_zne (tg := 20) (pc' := 7) rfl rfl rfl hz188 (fun c189 => absurd c189 (by omega)) (fun c189 => ?_)
        clear hz188
        refine h_aload_n (pc' := 8) rfl rfl rfl ?_
        refine h_iload_n (pc' := 9) rfl rfl rfl ?_
        refine h_put (pc' := 12) rfl rfl rfl rfl rfl rfl ci_2 rfl (h_fgt (E := fun s => s 98 15 = σ2 98 15 ∧ s 98 16 = σ2 98 16 ∧ s 98 17 = σ2 98 17 ∧ s 98 18 = σ2 98 18 ∧ s 98 13 = 2 ∧ s 98 14 = σ2 98 14 ∧ s 98 5 = σ2 98 5 ∧ s 98 6 = σ2 98 6 ∧ s 98 7 = σ2 98 7 ∧ s 98 8 = σ2 98 8 ∧ s 98 9 = σ2 98 9 ∧ s 101 18 = σ2 101 18 ∧ s 101 25 = σ2 101 25 ∧ s 101 43 = σ2 101 43 ∧ s = h_up σ2 98 13 2) _ (if_98_13 hI2 (by omega)) (F2.up rfl) ⟨rfl, rfl, rfl, rfl, rfl, rfl, rfl, rfl, rfl, rfl, rfl, rfl, rfl, rfl, rfl⟩ (fun s190 Is190 Fs190 (es190 : s190 98 15 = σ2 98 15 ∧ s190 98 16 = σ2 98 16 ∧ s190 98 17 = σ2 98 17 ∧ s190 98 18 = σ2 98 18 ∧ s190 98 13 = 2 ∧ s190 98 14 = σ2 98 14 ∧ s190 98 5 = σ2 98 5 ∧ s190 98 6 = σ2 98 6 ∧ s190 98 7 = σ2 98 7 ∧ s190 98 8 = σ2 98 8 ∧ s190 98 9 = σ2 98 9 ∧ s190 101 18 = σ2 101 18 ∧ s190 101 25 = σ2 101 25 ∧ s190 101 43 = σ2 101 43 ∧ s190 = h_up σ2 98 13 2) => ?_))
        refine h_aload_n (pc' := 13) rfl rfl rfl ?_
        refine h_aload_n (pc' := 14) rfl rfl rfl ?_
        refine h_getI (pc' := 17) (v := σ2 98 16) rfl rfl rfl rfl rfl es190.2.1 (fun z191 hz191 => ?_)
        have tz191 := tf_98_16 hI2
        refine h_put (pc' := 20) rfl rfl rfl rfl rfl rfl hz191 rfl (h_fgt (E := fun s => s 98 15 = σ2 98 15 ∧ s 98 16 = σ2 98 16 ∧ s 98 17 = σ2 98 17 ∧ s 98 18 = σ2 98 18 ∧ s 98 13 = 2 ∧ s 98 14 = (σ2 98 16) ∧ s 98 5 = σ2 98 5 ∧ s 98 6 = σ2 98 6 ∧ s 98 7 = σ2 98 7 ∧ s 98 8 = σ2 98 8 ∧ s 98 9 = σ2 98 9 ∧ s 101 18 = σ2 101 18 ∧ s 101 25 = σ2 101 25 ∧ s 101 43 = σ2 101 43 ∧ s = h_up s190 98 14 (σ2 98 16)) _ (if_98_14 Is190 (h_rgv hz191)) (Fs190.up rfl) ⟨es190.1, es190.2.1, es190.2.2.1, es190.2.2.2.1, es190.2.2.2.2.1, rfl, es190.2.2.2.2.2.2.1, es190.2.2.2.2.2.2.2.1, es190.2.2.2.2.2.2.2.2.1, es190.2.2.2.2.2.2.2.2.2.1, es190.2.2.2.2.2.2.2.2.2.2.1, es190.2.2.2.2.2.2.2.2.2.2.2.1, es190.2.2.2.2.2.2.2.2.2.2.2.2.1, es190.2.2.2.2.2.2.2.2.2.2.2.2.2.1, rfl⟩ (fun s192 Is192 Fs192 (es192 : s192 98 15 = σ2 98 15 ∧ s192 98 16 = σ2 98 16 ∧ s192 98 17 = σ2 98 17 ∧ s192 98 18 = σ2 98 18 ∧ s192 98 13 = 2 ∧ s192 98 14 = (σ2 98 16) ∧ s192 98 5 = σ2 98 5 ∧ s192 98 6 = σ2 98 6 ∧ s192 98 7 = σ2 98 7 ∧ s192 98 8 = σ2 98 8 ∧ s192 98 9 = σ2 98 9 ∧ s192 101 18 = σ2 101 18 ∧ s192 101 25 = σ2 101 25 ∧ s192 101 43 = σ2 101 43 ∧ s192 = h_up s190 98 14 (σ2 98 16)) => ?_))
        refine h_vret rfl rfl (h_Kn ?_)
        exfalso
        omega
      · replace c186 := (h_lcr hz185).2.1 c186
        clear hz185
        refine h_lload_n (pc' := 7) rfl rfl rfl ?_
        refine h_lload (pc' := 9) rfl rfl rfl ?_
        refine h_lcmp (pc' := 10) rfl rfl hz184 cl_7 (fun z193 hz193 => ?_)
        refine h_zgt (tg := 17) (pc' := 13) rfl rfl rfl rfl (fun c194 => absurd c194 (by omega)) (fun c194 => ?_)
        replace c194 := (h_lcr hz193).2.2.1 c194
        clear hz193
        refine h_iconst (pc' := 14) (x := (Int32.ofInt 1)) rfl rfl rfl ?_
        refine h_goto (pc' := 18) rfl rfl ?_
        refine h_zret rfl rfl ci_1 (by omega) (h_Kv ?_)
        clear hz184
        refine h_zne (tg := 23) (pc' := 17) rfl rfl rfl ci_1 (fun c195 => ?_) (fun c195 => absurd c195 (by omega))
        refine d_toL (g_inj ns) hlw183 hRw183 (fun lvw196 memw196 hlw196 hRw196 => ?_)
        show h_T g_P (g_Y ns) 56 88 [(0, .ref 63), (1, .int x1)] [] σ1 _
        refine h_wk [(0, .ref 63), (1, .int x1)] ⟨rfl, rfl, trivial⟩ (ls_mar hI1 hI2 (hTL.fr (F1.mono rfl) (F2.mono rfl)) x1 _ hx1 y1 _ hy1 (by omega) (by omega) (by omega) (by omega) (by omega) (by omega) (by omega) (by omega) (by omega) (by omega) (pr10) (by omega) (by omega) ⟨by omega, by omega⟩ (fun sq197 tq197 Isq197 Itq197 Gsq197 Gtq197   yq197_0 yq197_1 yq197_2 yq197_3 yq197_4 yq197_5 pcq197 lvq197 memq197 hlq197 hRq197 => ?_) (fun sq198 tq198 Isq198 Itq198 Gsq198 Gtq198   yq198_0 yq198_1 yq198_2 yq198_3 yq198_4 pcq198 lvq198 memq198 hlq198 hRq198 => ?_) _ _ (h_al_ok ⟨rfl, rfl, trivial⟩ hlw196) hRw196)
        · have Fsq197 := (Gsq197.mono (B := k_pl) rfl).tr F1
          have Ftq197 := (Gtq197.mono (B := k_pm) rfl).tr F2
          have Isq197 := Isq197
          have Itq197 := Itq197
          have Gsq197 := Gsq197
          have Gtq197 := Gtq197
          have esq197_6 : sq197 64 1 = σ1 64 1 := (Gsq197 64 1 rfl).trans rfl
          show h_T g_P (g_Y ns) 56 180 [(0, .ref 63)] [] sq197 _
          refine d_toM (g_inj ns) hlq197 hRq197 (fun lvw199 memw199 hlw199 hRw199 => ?_)
          show h_T g_P (g_Y ns) 154 165 [(0, .ref 98)] [] tq197 _
          refine d_toL (g_inj ns) hlw199 hRw199 (fun lvw200 memw200 hlw200 hRw200 => ?_)
          show h_T g_P (g_Y ns) 56 180 [(0, .ref 63)] [] sq197 _
          exact h_wk [(0, .ref 63)] ⟨rfl, trivial⟩ (kx0 _ _ Isq197 Itq197 Fsq197 Ftq197 (by omega) (by omega) (by omega) (by omega) (by omega) (yq197_5) (pcq197.elim (fun pcq197 => (Or.inl ⟨by omega, by omega, by omega, by omega⟩)) (fun pcq197 => (Or.inr ⟨by omega, by omega, by omega, by omega, by omega, by omega⟩))) _ _ (h_al_ok ⟨rfl, trivial⟩ hlw200) hRw200)
        · have Fsq198 := (Gsq198.mono (B := k_pl) rfl).tr F1
          have Ftq198 := (Gtq198.mono (B := k_pm) rfl).tr F2
          have Isq198 := Isq198
          have Itq198 := Itq198
          have Gsq198 := Gsq198
          have Gtq198 := Gtq198
          have esq198_6 : sq198 64 1 = σ1 64 1 := (Gsq198 64 1 rfl).trans rfl
          show h_T g_P (g_Y ns) 56 180 [(0, .ref 63)] [] sq198 _
          refine d_toM (g_inj ns) hlq198 hRq198 (fun lvw201 memw201 hlw201 hRw201 => ?_)
          show h_T g_P (g_Y ns) 154 139 [(0, .ref 98)] [] tq198 _
          refine d_toL (g_inj ns) hlw201 hRw201 (fun lvw202 memw202 hlw202 hRw202 => ?_)
          show h_T g_P (g_Y ns) 56 180 [(0, .ref 63)] [] sq198 _
          exact h_wk [(0, .ref 63)] ⟨rfl, trivial⟩ (kx1 _ _ Isq198 Itq198 Fsq198 Ftq198 (by omega) (by omega) (by omega) (by omega) (by omega) ⟨by omega, by omega, by omega, by omega⟩ _ _ (h_al_ok ⟨rfl, trivial⟩ hlw202) hRw202)
    · refine d_toM (g_inj ns) hl2 hR2 (fun lvw203 memw203 hlw203 hRw203 => ?_)
      show h_T g_P (g_Y ns) 154 5 [(0, .ref 98), (1, .int y1)] [] σ2 _
      refine h_iload_n (pc' := 6) rfl rfl rfl ?_
      refine h_i2l (pc' := 7) rfl rfl hy1 (fun z204 hz204 => ?_)
      refine h_lconst (pc' := 8) (x := (Int64.ofInt 0)) rfl rfl rfl ?_
      refine h_ldc2 (pc' := 11) (x := (Int64.ofInt 7)) rfl rfl rfl ?_
      refine h_calls (pc' := 14) (M := [(0, .long z204), (2, .long (Int64.ofInt 0)), (4, .long (Int64.ofInt 7))]) rfl rfl rfl rfl rfl rfl ?_
      refine h_lload_n (pc' := 1) rfl rfl rfl ?_
      refine h_lload_n (pc' := 2) rfl rfl rfl ?_
      refine h_lcmp (pc' := 3) rfl rfl hz204 cl_0 (fun z205 hz205 => ?_)
      refine h_zlt (tg := 17) (pc' := 6) rfl rfl rfl rfl (fun c206 => ?_) (fun c206 => ?_)
      · replace c206 := (h_lcr hz205).1 c206
        clear hz205
        refine h_iconst (pc' := 18) (x := (Int32.ofInt 0)) rfl rfl rfl ?_
        refine h_zret rfl rfl ci_0 (by omega) (h_Kv ?_)
        clear hz204
        refine h_zne (tg := 23) (pc' := 17) rfl rfl rfl ci_0 (fun c207 => absurd c207 (by omega)) (fun c207 => ?_)
        refine h_aload_n (pc' := 18) rfl rfl rfl ?_
        refine h_iconst (pc' := 19) (x := (Int32.ofInt 2)) rfl rfl rfl ?_
        refine h_call (sp := false) (pc' := 22) (M := [(0, .ref 98), (1, .int (Int32.ofInt 2))]) rfl rfl rfl rfl rfl rfl rfl rfl ?_
        refine h_aload_n (pc' := 1) rfl rfl rfl ?_
        refine h_getI (pc' := 4) (v := σ2 98 13) rfl rfl rfl rfl rfl rfl (fun z208 hz208 => ?_)
        have tz208 := tf_98_13 hI2
        refine h_zne (tg := 20) (pc' := 7) rfl rfl rfl hz208 (fun c209 => absurd c209 (by omega)) (fun c209 => ?_)
        clear hz208
        refine h_aload_n (pc' := 8) rfl rfl rfl ?_
        refine h_iload_n (pc' := 9) rfl rfl rfl ?_
        refine h_put (pc' := 12) rfl rfl rfl rfl rfl rfl ci_2 rfl (h_fgt (E := fun s => s 98 15 = σ2 98 15 ∧ s 98 16 = σ2 98 16 ∧ s 98 17 = σ2 98 17 ∧ s 98 18 = σ2 98 18 ∧ s 98 13 = 2 ∧ s 98 14 = σ2 98 14 ∧ s 98 5 = σ2 98 5 ∧ s 98 6 = σ2 98 6 ∧ s 98 7 = σ2 98 7 ∧ s 98 8 = σ2 98 8 ∧ s 98 9 = σ2 98 9 ∧ s 101 18 = σ2 101 18 ∧ s 101 25 = σ2 101 25 ∧ s 101 43 = σ2 101 43 ∧ s = h_up σ2 98 13 2) _ (if_98_13 hI2 (by omega)) (F2.up rfl) ⟨rfl, rfl, rfl, rfl, rfl, rfl, rfl, rfl, rfl, rfl, rfl, rfl, rfl, rfl, rfl⟩ (fun s210 Is210 Fs210 (es210 : s210 98 15 = σ2 98 15 ∧ s210 98 16 = σ2 98 16 ∧ s210 98 17 = σ2 98 17 ∧ s210 98 18 = σ2 98 18 ∧ s210 98 13 = 2 ∧ s210 98 14 = σ2 98 14 ∧ s210 98 5 = σ2 98 5 ∧ s210 98 6 = σ2 98 6 ∧ s210 98 7 = σ2 98 7 ∧ s210 98 8 = σ2 98 8 ∧ s210 98 9 = σ2 98 9 ∧ s210 101 18 = σ2 101 18 ∧ s210 101 25 = σ2 101 25 ∧ s210 101 43 = σ2 101 43 ∧ s210 = h_up σ2 98 13 2) => ?_))
        refine h_aload_n (pc' := 13) rfl rfl rfl ?_
        refine h_aload_n (pc' := 14) rfl rfl rfl ?_
        refine h_getI (pc' := 17) (v := σ2 98 16) rfl rfl rfl rfl rfl es210.2.1 (fun z211 hz211 => ?_)
        have tz211 := tf_98_16 hI2
        refine h_put (pc' := 20) rfl rfl rfl rfl rfl rfl hz211 rfl (h_fgt (E := fun s => s 98 15 = σ2 98 15 ∧ s 98 16 = σ2 98 16 ∧ s 98 17 = σ2 98 17 ∧ s 98 18 = σ2 98 18 ∧ s 98 13 = 2 ∧ s 98 14 = (σ2 98 16) ∧ s 98 5 = σ2 98 5 ∧ s 98 6 = σ2 98 6 ∧ s 98 7 = σ2 98 7 ∧ s 98 8 = σ2 98 8 ∧ s 98 9 = σ2 98 9 ∧ s 101 18 = σ2 101 18 ∧ s 101 25 = σ2 101 25 ∧ s 101 43 = σ2 101 43 ∧ s = h_up s210 98 14 (σ2 98 16)) _ (if_98_14 Is210 (h_rgv hz211)) (Fs210.up rfl) ⟨es210.1, es210.2.1, es210.2.2.1, es210.2.2.2.1, es210.2.2.2.2.1, rfl, es210.2.2.2.2.2.2.1, es210.2.2.2.2.2.2.2.1, es210.2.2.2.2.2.2.2.2.1, es210.2.2.2.2.2.2.2.2.2.1, es210.2.2.2.2.2.2.2.2.2.2.1, es210.2.2.2.2.2.2.2.2.2.2.2.1, es210.2.2.2.2.2.2.2.2.2.2.2.2.1, es210.2.2.2.2.2.2.2.2.2.2.2.2.2.1, rfl⟩ (fun s212 Is212 Fs212 (es212 : s212 98 15 = σ2 98 15 ∧ s212 98 16 = σ2 98 16 ∧ s212 98 17 = σ2 98 17 ∧ s212 98 18 = σ2 98 18 ∧ s212 98 13 = 2 ∧ s212 98 14 = (σ2 98 16) ∧ s212 98 5 = σ2 98 5 ∧ s212 98 6 = σ2 98 6 ∧ s212 98 7 = σ2 98 7 ∧ s212 98 8 = σ2 98 8 ∧ s212 98 9 = σ2 98 9 ∧ s212 101 18 = σ2 101 18 ∧ s212 101 25 = σ2 101 25 ∧ s212 101 43 = σ2 101 43 ∧ s212 = h_up s210 98 14 (σ2 98 16)) => ?_))
        refine h_vret rfl rfl (h_Kn ?_)
        exfalso
        omega
      · replace c206 := (h_lcr hz205).2.1 c206
        clear hz205
        refine h_lload_n (pc' := 7) rfl rfl rfl ?_
        refine h_lload (pc' := 9) rfl rfl rfl ?_
        refine h_lcmp (pc' := 10) rfl rfl hz204 cl_7 (fun z213 hz213 => ?_)
        refine h_zgt (tg := 17) (pc' := 13) rfl rfl rfl rfl (fun c214 => absurd c214 (by omega)) (fun c214 => ?_)
        replace c214 := (h_lcr hz213).2.2.1 c214
        clear hz213
        refine h_iconst (pc' := 14) (x := (Int32.ofInt 1)) rfl rfl rfl ?_
        refine h_goto (pc' := 18) rfl rfl ?_
        refine h_zret rfl rfl ci_1 (by omega) (h_Kv ?_)
        clear hz204
        refine h_zne (tg := 23) (pc' := 17) rfl rfl rfl ci_1 (fun c215 => ?_) (fun c215 => absurd c215 (by omega))
        refine d_toL (g_inj ns) hlw203 hRw203 (fun lvw216 memw216 hlw216 hRw216 => ?_)
        show h_T g_P (g_Y ns) 56 102 [(0, .ref 63), (1, .int x1)] [] σ1 _
        refine h_wk [(0, .ref 63), (1, .int x1)] ⟨rfl, rfl, trivial⟩ (ls_feu hI1 hI2 (hTL.fr (F1.mono rfl) (F2.mono rfl)) x1 _ hx1 y1 _ hy1 (by omega) (by omega) (by omega) (by omega) (by omega) (by omega) (by omega) (by omega) (by omega) (by omega) (pr10) (by omega) (by omega) ⟨by omega, by omega⟩ (fun sq217 tq217 Isq217 Itq217 Gsq217 Gtq217   yq217_0 yq217_1 yq217_2 yq217_3 yq217_4 yq217_5 pcq217 lvq217 memq217 hlq217 hRq217 => ?_) (fun sq218 tq218 Isq218 Itq218 Gsq218 Gtq218   yq218_0 yq218_1 yq218_2 yq218_3 yq218_4 pcq218 lvq218 memq218 hlq218 hRq218 => ?_) _ _ (h_al_ok ⟨rfl, rfl, trivial⟩ hlw216) hRw216)
        · have Fsq217 := (Gsq217.mono (B := k_pl) rfl).tr F1
          have Ftq217 := (Gtq217.mono (B := k_pm) rfl).tr F2
          have Isq217 := Isq217
          have Itq217 := Itq217
          have Gsq217 := Gsq217
          have Gtq217 := Gtq217
          have esq217_6 : sq217 64 1 = σ1 64 1 := (Gsq217 64 1 rfl).trans rfl
          show h_T g_P (g_Y ns) 56 180 [(0, .ref 63)] [] sq217 _
          refine d_toM (g_inj ns) hlq217 hRq217 (fun lvw219 memw219 hlw219 hRw219 => ?_)
          show h_T g_P (g_Y ns) 154 165 [(0, .ref 98)] [] tq217 _
          refine d_toL (g_inj ns) hlw219 hRw219 (fun lvw220 memw220 hlw220 hRw220 => ?_)
          show h_T g_P (g_Y ns) 56 180 [(0, .ref 63)] [] sq217 _
          exact h_wk [(0, .ref 63)] ⟨rfl, trivial⟩ (kx0 _ _ Isq217 Itq217 Fsq217 Ftq217 (by omega) (by omega) (by omega) (by omega) (by omega) (yq217_5) (pcq217.elim (fun pcq217 => (Or.inl ⟨by omega, by omega, by omega, by omega⟩)) (fun pcq217 => (Or.inr ⟨by omega, by omega, by omega, by omega, by omega, by omega⟩))) _ _ (h_al_ok ⟨rfl, trivial⟩ hlw220) hRw220)
        · have Fsq218 := (Gsq218.mono (B := k_pl) rfl).tr F1
          have Ftq218 := (Gtq218.mono (B := k_pm) rfl).tr F2
          have Isq218 := Isq218
          have Itq218 := Itq218
          have Gsq218 := Gsq218
          have Gtq218 := Gtq218
          have esq218_6 : sq218 64 1 = σ1 64 1 := (Gsq218 64 1 rfl).trans rfl
          show h_T g_P (g_Y ns) 56 180 [(0, .ref 63)] [] sq218 _
          refine d_toM (g_inj ns) hlq218 hRq218 (fun lvw221 memw221 hlw221 hRw221 => ?_)
          show h_T g_P (g_Y ns) 154 139 [(0, .ref 98)] [] tq218 _
          refine d_toL (g_inj ns) hlw221 hRw221 (fun lvw222 memw222 hlw222 hRw222 => ?_)
          show h_T g_P (g_Y ns) 56 180 [(0, .ref 63)] [] sq218 _
          exact h_wk [(0, .ref 63)] ⟨rfl, trivial⟩ (kx1 _ _ Isq218 Itq218 Fsq218 Ftq218 (by omega) (by omega) (by omega) (by omega) (by omega) ⟨by omega, by omega, by omega, by omega⟩ _ _ (h_al_ok ⟨rfl, trivial⟩ hlw222) hRw222)
    · refine d_toM (g_inj ns) hl2 hR2 (fun lvw223 memw223 hlw223 hRw223 => ?_)
      show h_T g_P (g_Y ns) 154 5 [(0, .ref 98), (1, .int y1)] [] σ2 _
      refine h_iload_n (pc' := 6) rfl rfl rfl ?_
      refine h_i2l (pc' := 7) rfl rfl hy1 (fun z224 hz224 => ?_)
      refine h_lconst (pc' := 8) (x := (Int64.ofInt 0)) rfl rfl rfl ?_
      refine h_ldc2 (pc' := 11) (x := (Int64.ofInt 7)) rfl rfl rfl ?_
      refine h_calls (pc' := 14) (M := [(0, .long z224), (2, .long (Int64.ofInt 0)), (4, .long (Int64.ofInt 7))]) rfl rfl rfl rfl rfl rfl ?_
      refine h_lload_n (pc' := 1) rfl rfl rfl ?_
      refine h_lload_n (pc' := 2) rfl rfl rfl ?_
      refine h_lcmp (pc' := 3) rfl rfl hz224 cl_0 (fun z225 hz225 => ?_)
      refine h_zlt (tg := 17) (pc' := 6) rfl rfl rfl rfl (fun c226 => ?_) (fun c226 => ?_)
      · replace c226 := (h_lcr hz225).1 c226
        clear hz225
        refine h_iconst (pc' := 18) (x := (Int32.ofInt 0)) rfl rfl rfl ?_
        refine h_zret rfl rfl ci_0 (by omega) (h_Kv ?_)
        clear hz224
        refine h_zne (tg := 23) (pc' := 17) rfl rfl rfl ci_0 (fun c227 => absurd c227 (by omega)) (fun c227 => ?_)
        refine h_aload_n (pc' := 18) rfl rfl rfl ?_
        refine h_iconst (pc' := 19) (x := (Int32.ofInt 2)) rfl rfl rfl ?_
        refine h_call (sp := false) (pc' := 22) (M := [(0, .ref 98), (1, .int (Int32.ofInt 2))]) rfl rfl rfl rfl rfl rfl rfl rfl ?_
        refine h_aload_n (pc' := 1) rfl rfl rfl ?_
        refine h_getI (pc' := 4) (v := σ2 98 13) rfl rfl rfl rfl rfl rfl (fun z228 hz228 => ?_)
        have tz228 := tf_98_13 hI2
        refine h_zne (tg := 20) (pc' := 7) rfl rfl rfl hz228 (fun c229 => absurd c229 (by omega)) (fun c229 => ?_)
        clear hz228
        refine h_aload_n (pc' := 8) rfl rfl rfl ?_
        refine h_iload_n (pc' := 9) rfl rfl rfl ?_
        refine h_put (pc' := 12) rfl rfl rfl rfl rfl rfl ci_2 rfl (h_fgt (E := fun s => s 98 15 = σ2 98 15 ∧ s 98 16 = σ2 98 16 ∧ s 98 17 = σ2 98 17 ∧ s 98 18 = σ2 98 18 ∧ s 98 13 = 2 ∧ s 98 14 = σ2 98 14 ∧ s 98 5 = σ2 98 5 ∧ s 98 6 = σ2 98 6 ∧ s 98 7 = σ2 98 7 ∧ s 98 8 = σ2 98 8 ∧ s 98 9 = σ2 98 9 ∧ s 101 18 = σ2 101 18 ∧ s 101 25 = σ2 101 25 ∧ s 101 43 = σ2 101 43 ∧ s = h_up σ2 98 13 2) _ (if_98_13 hI2 (by omega)) (F2.up rfl) ⟨rfl, rfl, rfl, rfl, rfl, rfl, rfl, rfl, rfl, rfl, rfl, rfl, rfl, rfl, rfl⟩ (fun s230 Is230 Fs230 (es230 : s230 98 15 = σ2 98 15 ∧ s230 98 16 = σ2 98 16 ∧ s230 98 17 = σ2 98 17 ∧ s230 98 18 = σ2 98 18 ∧ s230 98 13 = 2 ∧ s230 98 14 = σ2 98 14 ∧ s230 98 5 = σ2 98 5 ∧ s230 98 6 = σ2 98 6 ∧ s230 98 7 = σ2 98 7 ∧ s230 98 8 = σ2 98 8 ∧ s230 98 9 = σ2 98 9 ∧ s230 101 18 = σ2 101 18 ∧ s230 101 25 = σ2 101 25 ∧ s230 101 43 = σ2 101 43 ∧ s230 = h_up σ2 98 13 2) => ?_))
        refine h_aload_n (pc' := 13) rfl rfl rfl ?_
        refine h_aload_n (pc' := 14) rfl rfl rfl ?_
        refine h_getI (pc' := 17) (v := σ2 98 16) rfl rfl rfl rfl rfl es230.2.1 (fun z231 hz231 => ?_)
        have tz231 := tf_98_16 hI2
        refine h_put (pc' := 20) rfl rfl rfl rfl rfl rfl hz231 rfl (h_fgt (E := fun s => s 98 15 = σ2 98 15 ∧ s 98 16 = σ2 98 16 ∧ s 98 17 = σ2 98 17 ∧ s 98 18 = σ2 98 18 ∧ s 98 13 = 2 ∧ s 98 14 = (σ2 98 16) ∧ s 98 5 = σ2 98 5 ∧ s 98 6 = σ2 98 6 ∧ s 98 7 = σ2 98 7 ∧ s 98 8 = σ2 98 8 ∧ s 98 9 = σ2 98 9 ∧ s 101 18 = σ2 101 18 ∧ s 101 25 = σ2 101 25 ∧ s 101 43 = σ2 101 43 ∧ s = h_up s230 98 14 (σ2 98 16)) _ (if_98_14 Is230 (h_rgv hz231)) (Fs230.up rfl) ⟨es230.1, es230.2.1, es230.2.2.1, es230.2.2.2.1, es230.2.2.2.2.1, rfl, es230.2.2.2.2.2.2.1, es230.2.2.2.2.2.2.2.1, es230.2.2.2.2.2.2.2.2.1, es230.2.2.2.2.2.2.2.2.2.1, es230.2.2.2.2.2.2.2.2.2.2.1, es230.2.2.2.2.2.2.2.2.2.2.2.1, es230.2.2.2.2.2.2.2.2.2.2.2.2.1, es230.2.2.2.2.2.2.2.2.2.2.2.2.2.1, rfl⟩ (fun s232 Is232 Fs232 (es232 : s232 98 15 = σ2 98 15 ∧ s232 98 16 = σ2 98 16 ∧ s232 98 17 = σ2 98 17 ∧ s232 98 18 = σ2 98 18 ∧ s232 98 13 = 2 ∧ s232 98 14 = (σ2 98 16) ∧ s232 98 5 = σ2 98 5 ∧ s232 98 6 = σ2 98 6 ∧ s232 98 7 = σ2 98 7 ∧ s232 98 8 = σ2 98 8 ∧ s232 98 9 = σ2 98 9 ∧ s232 101 18 = σ2 101 18 ∧ s232 101 25 = σ2 101 25 ∧ s232 101 43 = σ2 101 43 ∧ s232 = h_up s230 98 14 (σ2 98 16)) => ?_))
        refine h_vret rfl rfl (h_Kn ?_)
        exfalso
        omega
      · replace c226 := (h_lcr hz225).2.1 c226
        clear hz225
        refine h_lload_n (pc' := 7) rfl rfl rfl ?_
        refine h_lload (pc' := 9) rfl rfl rfl ?_
        refine h_lcmp (pc' := 10) rfl rfl hz224 cl_7 (fun z233 hz233 => ?_)
        refine h_zgt (tg := 17) (pc' := 13) rfl rfl rfl rfl (fun c234 => absurd c234 (by omega)) (fun c234 => ?_)
        replace c234 := (h_lcr hz233).2.2.1 c234
        clear hz233
        refine h_iconst (pc' := 14) (x := (Int32.ofInt 1)) rfl rfl rfl ?_
        refine h_goto (pc' := 18) rfl rfl ?_
        refine h_zret rfl rfl ci_1 (by omega) (h_Kv ?_)
        clear hz224
        refine h_zne (tg := 23) (pc' := 17) rfl rfl rfl ci_1 (fun c235 => ?_) (fun c235 => absurd c235 (by omega))
        refine d_toL (g_inj ns) hlw223 hRw223 (fun lvw236 memw236 hlw236 hRw236 => ?_)
        show h_T g_P (g_Y ns) 56 116 [(0, .ref 63), (1, .int x1)] [] σ1 _
        refine h_wk [(0, .ref 63), (1, .int x1)] ⟨rfl, rfl, trivial⟩ (ls_gat hI1 hI2 (hTL.fr (F1.mono rfl) (F2.mono rfl)) x1 _ hx1 y1 _ hy1 (by omega) (by omega) (by omega) (by omega) (by omega) (by omega) (by omega) (by omega) (by omega) (by omega) (pr10) (by omega) (by omega) ⟨by omega, by omega⟩ (fun sq237 tq237 Isq237 Itq237 Gsq237 Gtq237   yq237_0 yq237_1 yq237_2 yq237_3 yq237_4 yq237_5 pcq237 lvq237 memq237 hlq237 hRq237 => ?_) (fun sq238 tq238 Isq238 Itq238 Gsq238 Gtq238   yq238_0 yq238_1 yq238_2 yq238_3 yq238_4 pcq238 lvq238 memq238 hlq238 hRq238 => ?_) _ _ (h_al_ok ⟨rfl, rfl, trivial⟩ hlw236) hRw236)
        · have Fsq237 := (Gsq237.mono (B := k_pl) rfl).tr F1
          have Ftq237 := (Gtq237.mono (B := k_pm) rfl).tr F2
          have Isq237 := Isq237
          have Itq237 := Itq237
          have Gsq237 := Gsq237
          have Gtq237 := Gtq237
          have esq237_6 : sq237 64 1 = σ1 64 1 := (Gsq237 64 1 rfl).trans rfl
          show h_T g_P (g_Y ns) 56 180 [(0, .ref 63)] [] sq237 _
          refine d_toM (g_inj ns) hlq237 hRq237 (fun lvw239 memw239 hlw239 hRw239 => ?_)
          show h_T g_P (g_Y ns) 154 165 [(0, .ref 98)] [] tq237 _
          refine d_toL (g_inj ns) hlw239 hRw239 (fun lvw240 memw240 hlw240 hRw240 => ?_)
          show h_T g_P (g_Y ns) 56 180 [(0, .ref 63)] [] sq237 _
          exact h_wk [(0, .ref 63)] ⟨rfl, trivial⟩ (kx0 _ _ Isq237 Itq237 Fsq237 Ftq237 (by omega) (by omega) (by omega) (by omega) (by omega) (yq237_5) (pcq237.elim (fun pcq237 => (Or.inl ⟨by omega, by omega, by omega, by omega⟩)) (fun pcq237 => (Or.inr ⟨by omega, by omega, by omega, by omega, by omega, by omega⟩))) _ _ (h_al_ok ⟨rfl, trivial⟩ hlw240) hRw240)
        · have Fsq238 := (Gsq238.mono (B := k_pl) rfl).tr F1
          have Ftq238 := (Gtq238.mono (B := k_pm) rfl).tr F2
          have Isq238 := Isq238
          have Itq238 := Itq238
          have Gsq238 := Gsq238
          have Gtq238 := Gtq238
          have esq238_6 : sq238 64 1 = σ1 64 1 := (Gsq238 64 1 rfl).trans rfl
          show h_T g_P (g_Y ns) 56 180 [(0, .ref 63)] [] sq238 _
          refine d_toM (g_inj ns) hlq238 hRq238 (fun lvw241 memw241 hlw241 hRw241 => ?_)
          show h_T g_P (g_Y ns) 154 139 [(0, .ref 98)] [] tq238 _
          refine d_toL (g_inj ns) hlw241 hRw241 (fun lvw242 memw242 hlw242 hRw242 => ?_)
          show h_T g_P (g_Y ns) 56 180 [(0, .ref 63)] [] sq238 _
          exact h_wk [(0, .ref 63)] ⟨rfl, trivial⟩ (kx1 _ _ Isq238 Itq238 Fsq238 Ftq238 (by omega) (by omega) (by omega) (by omega) (by omega) ⟨by omega, by omega, by omega, by omega⟩ _ _ (h_al_ok ⟨rfl, trivial⟩ hlw242) hRw242)
    · refine d_toM (g_inj ns) hl2 hR2 (fun lvw243 memw243 hlw243 hRw243 => ?_)
      show h_T g_P (g_Y ns) 154 5 [(0, .ref 98), (1, .int y1)] [] σ2 _
      refine h_iload_n (pc' := 6) rfl rfl rfl ?_
      refine h_i2l (pc' := 7) rfl rfl hy1 (fun z244 hz244 => ?_)
      refine h_lconst (pc' := 8) (x := (Int64.ofInt 0)) rfl rfl rfl ?_
      refine h_ldc2 (pc' := 11) (x := (Int64.ofInt 7)) rfl rfl rfl ?_
      refine h_calls (pc' := 14) (M := [(0, .long z244), (2, .long (Int64.ofInt 0)), (4, .long (Int64.ofInt 7))]) rfl rfl rfl rfl rfl rfl ?_
      refine h_lload_n (pc' := 1) rfl rfl rfl ?_
      refine h_lload_n (pc' := 2) rfl rfl rfl ?_
      refine h_lcmp (pc' := 3) rfl rfl hz244 cl_0 (fun z245 hz245 => ?_)
      refine h_zlt (tg := 17) (pc' := 6) rfl rfl rfl rfl (fun c246 => ?_) (fun c246 => ?_)
      · replace c246 := (h_lcr hz245).1 c246
        clear hz245
        refine h_iconst (pc' := 18) (x := (Int32.ofInt 0)) rfl rfl rfl ?_
        refine h_zret rfl rfl ci_0 (by omega) (h_Kv ?_)
        clear hz244
        refine h_zne (tg := 23) (pc' := 17) rfl rfl rfl ci_0 (fun c247 => absurd c247 (by omega)) (fun c247 => ?_)
        refine h_aload_n (pc' := 18) rfl rfl rfl ?_
        refine h_iconst (pc' := 19) (x := (Int32.ofInt 2)) rfl rfl rfl ?_
        refine h_call (sp := false) (pc' := 22) (M := [(0, .ref 98), (1, .int (Int32.ofInt 2))]) rfl rfl rfl rfl rfl rfl rfl rfl ?_
        refine h_aload_n (pc' := 1) rfl rfl rfl ?_
        refine h_getI (pc' := 4) (v := σ2 98 13) rfl rfl rfl rfl rfl rfl (fun z248 hz248 => ?_)
        have tz248 := tf_98_13 hI2
        refine h_zne (tg := 20) (pc' := 7) rfl rfl rfl hz248 (fun c249 => absurd c249 (by omega)) (fun c249 => ?_)
        clear hz248
        refine h_aload_n (pc' := 8) rfl rfl rfl ?_
        refine h_iload_n (pc' := 9) rfl rfl rfl ?_
        refine h_put (pc' := 12) rfl rfl rfl rfl rfl rfl ci_2 rfl (h_fgt (E := fun s => s 98 15 = σ2 98 15 ∧ s 98 16 = σ2 98 16 ∧ s 98 17 = σ2 98 17 ∧ s 98 18 = σ2 98 18 ∧ s 98 13 = 2 ∧ s 98 14 = σ2 98 14 ∧ s 98 5 = σ2 98 5 ∧ s 98 6 = σ2 98 6 ∧ s 98 7 = σ2 98 7 ∧ s 98 8 = σ2 98 8 ∧ s 98 9 = σ2 98 9 ∧ s 101 18 = σ2 101 18 ∧ s 101 25 = σ2 101 25 ∧ s 101 43 = σ2 101 43 ∧ s = h_up σ2 98 13 2) _ (if_98_13 hI2 (by omega)) (F2.up rfl) ⟨rfl, rfl, rfl, rfl, rfl, rfl, rfl, rfl, rfl, rfl, rfl, rfl, rfl, rfl, rfl⟩ (fun s250 Is250 Fs250 (es250 : s250 98 15 = σ2 98 15 ∧ s250 98 16 = σ2 98 16 ∧ s250 98 17 = σ2 98 17 ∧ s250 98 18 = σ2 98 18 ∧ s250 98 13 = 2 ∧ s250 98 14 = σ2 98 14 ∧ s250 98 5 = σ2 98 5 ∧ s250 98 6 = σ2 98 6 ∧ s250 98 7 = σ2 98 7 ∧ s250 98 8 = σ2 98 8 ∧ s250 98 9 = σ2 98 9 ∧ s250 101 18 = σ2 101 18 ∧ s250 101 25 = σ2 101 25 ∧ s250 101 43 = σ2 101 43 ∧ s250 = h_up σ2 98 13 2) => ?_))
        refine h_aload_n (pc' := 13) rfl rfl rfl ?_
        refine h_aload_n (pc' := 14) rfl rfl rfl ?_
        refine h_getI (pc' := 17) (v := σ2 98 16) rfl rfl rfl rfl rfl es250.2.1 (fun z251 hz251 => ?_)
        have tz251 := tf_98_16 hI2
        refine h_put (pc' := 20) rfl rfl rfl rfl rfl rfl hz251 rfl (h_fgt (E := fun s => s 98 15 = σ2 98 15 ∧ s 98 16 = σ2 98 16 ∧ s 98 17 = σ2 98 17 ∧ s 98 18 = σ2 98 18 ∧ s 98 13 = 2 ∧ s 98 14 = (σ2 98 16) ∧ s 98 5 = σ2 98 5 ∧ s 98 6 = σ2 98 6 ∧ s 98 7 = σ2 98 7 ∧ s 98 8 = σ2 98 8 ∧ s 98 9 = σ2 98 9 ∧ s 101 18 = σ2 101 18 ∧ s 101 25 = σ2 101 25 ∧ s 101 43 = σ2 101 43 ∧ s = h_up s250 98 14 (σ2 98 16)) _ (if_98_14 Is250 (h_rgv hz251)) (Fs250.up rfl) ⟨es250.1, es250.2.1, es250.2.2.1, es250.2.2.2.1, es250.2.2.2.2.1, rfl, es250.2.2.2.2.2.2.1, es250.2.2.2.2.2.2.2.1, es250.2.2.2.2.2.2.2.2.1, es250.2.2.2.2.2.2.2.2.2.1, es250.2.2.2.2.2.2.2.2.2.2.1, es250.2.2.2.2.2.2.2.2.2.2.2.1, es250.2.2.2.2.2.2.2.2.2.2.2.2.1, es250.2.2.2.2.2.2.2.2.2.2.2.2.2.1, rfl⟩ (fun s252 Is252 Fs252 (es252 : s252 98 15 = σ2 98 15 ∧ s252 98 16 = σ2 98 16 ∧ s252 98 17 = σ2 98 17 ∧ s252 98 18 = σ2 98 18 ∧ s252 98 13 = 2 ∧ s252 98 14 = (σ2 98 16) ∧ s252 98 5 = σ2 98 5 ∧ s252 98 6 = σ2 98 6 ∧ s252 98 7 = σ2 98 7 ∧ s252 98 8 = σ2 98 8 ∧ s252 98 9 = σ2 98 9 ∧ s252 101 18 = σ2 101 18 ∧ s252 101 25 = σ2 101 25 ∧ s252 101 43 = σ2 101 43 ∧ s252 = h_up s250 98 14 (σ2 98 16)) => ?_))
        refine h_vret rfl rfl (h_Kn ?_)
        exfalso
        omega
      · replace c246 := (h_lcr hz245).2.1 c246
        clear hz245
        refine h_lload_n (pc' := 7) rfl rfl rfl ?_
        refine h_lload (pc' := 9) rfl rfl rfl ?_
        refine h_lcmp (pc' := 10) rfl rfl hz244 cl_7 (fun z253 hz253 => ?_)
        refine h_zgt (tg := 17) (pc' := 13) rfl rfl rfl rfl (fun c254 => absurd c254 (by omega)) (fun c254 => ?_)
        replace c254 := (h_lcr hz253).2.2.1 c254
        clear hz253
        refine h_iconst (pc' := 14) (x := (Int32.ofInt 1)) rfl rfl rfl ?_
        refine h_goto (pc' := 18) rfl rfl ?_
        refine h_zret rfl rfl ci_1 (by omega) (h_Kv ?_)
        clear hz244
        refine h_zne (tg := 23) (pc' := 17) rfl rfl rfl ci_1 (fun c255 => ?_) (fun c255 => absurd c255 (by omega))
        refine d_toL (g_inj ns) hlw243 hRw243 (fun lvw256 memw256 hlw256 hRw256 => ?_)
        show h_T g_P (g_Y ns) 56 123 [(0, .ref 63), (1, .int x1)] [] σ1 _
        refine h_wk [(0, .ref 63), (1, .int x1)] ⟨rfl, rfl, trivial⟩ (ls_pln hI1 hI2 (hTL.fr (F1.mono rfl) (F2.mono rfl)) x1 _ hx1 y1 _ hy1 (by omega) (by omega) (by omega) (by omega) (by omega) (by omega) (by omega) (by omega) (by omega) (by omega) (pr10) (by omega) (by omega) ⟨by omega, by omega⟩ (fun sq257 tq257 Isq257 Itq257 Gsq257 Gtq257   yq257_0 yq257_1 yq257_2 yq257_3 yq257_4 yq257_5 pcq257 lvq257 memq257 hlq257 hRq257 => ?_) (fun sq258 tq258 Isq258 Itq258 Gsq258 Gtq258   yq258_0 yq258_1 yq258_2 yq258_3 yq258_4 pcq258 lvq258 memq258 hlq258 hRq258 => ?_) _ _ (h_al_ok ⟨rfl, rfl, trivial⟩ hlw256) hRw256)
        · have Fsq257 := (Gsq257.mono (B := k_pl) rfl).tr F1
          have Ftq257 := (Gtq257.mono (B := k_pm) rfl).tr F2
          have Isq257 := Isq257
          have Itq257 := Itq257
          have Gsq257 := Gsq257
          have Gtq257 := Gtq257
          have esq257_6 : sq257 64 1 = σ1 64 1 := (Gsq257 64 1 rfl).trans rfl
          show h_T g_P (g_Y ns) 56 180 [(0, .ref 63)] [] sq257 _
          refine d_toM (g_inj ns) hlq257 hRq257 (fun lvw259 memw259 hlw259 hRw259 => ?_)
          show h_T g_P (g_Y ns) 154 165 [(0, .ref 98)] [] tq257 _
          refine d_toL (g_inj ns) hlw259 hRw259 (fun lvw260 memw260 hlw260 hRw260 => ?_)
          show h_T g_P (g_Y ns) 56 180 [(0, .ref 63)] [] sq257 _
          exact h_wk [(0, .ref 63)] ⟨rfl, trivial⟩ (kx0 _ _ Isq257 Itq257 Fsq257 Ftq257 (by omega) (by omega) (by omega) (by omega) (by omega) (yq257_5) (pcq257.elim (fun pcq257 => (Or.inl ⟨by omega, by omega, by omega, by omega⟩)) (fun pcq257 => (Or.inr ⟨by omega, by omega, by omega, by omega, by omega, by omega⟩))) _ _ (h_al_ok ⟨rfl, trivial⟩ hlw260) hRw260)
        · have Fsq258 := (Gsq258.mono (B := k_pl) rfl).tr F1
          have Ftq258 := (Gtq258.mono (B := k_pm) rfl).tr F2
          have Isq258 := Isq258
          have Itq258 := Itq258
          have Gsq258 := Gsq258
          have Gtq258 := Gtq258
          have esq258_6 : sq258 64 1 = σ1 64 1 := (Gsq258 64 1 rfl).trans rfl
          show h_T g_P (g_Y ns) 56 180 [(0, .ref 63)] [] sq258 _
          refine d_toM (g_inj ns) hlq258 hRq258 (fun lvw261 memw261 hlw261 hRw261 => ?_)
          show h_T g_P (g_Y ns) 154 139 [(0, .ref 98)] [] tq258 _
          refine d_toL (g_inj ns) hlw261 hRw261 (fun lvw262 memw262 hlw262 hRw262 => ?_)
          show h_T g_P (g_Y ns) 56 180 [(0, .ref 63)] [] sq258 _
          exact h_wk [(0, .ref 63)] ⟨rfl, trivial⟩ (kx1 _ _ Isq258 Itq258 Fsq258 Ftq258 (by omega) (by omega) (by omega) (by omega) (by omega) ⟨by omega, by omega, by omega, by omega⟩ _ _ (h_al_ok ⟨rfl, trivial⟩ hlw262) hRw262)
