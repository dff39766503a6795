set_option maxHeartbeats 100000000 in
theorem ls_ln {ns : Nat} {σ1 σ2 : h_S} (hI1 : h_I σ1) (hI2 : h_I σ2) (hTL : d_tape σ1 σ2) (x1 : Int32) (a1 : Int) (hx1 : x1.toInt = a1) (y1 : Int32) (c1 : Int) (hy1 : y1.toInt = c1) (pr0 : σ1 64 2 = σ2 98 15) (pr1 : σ1 64 4 = σ2 98 16) (pr2 : σ1 63 2 = σ2 98 13) (pr3 : σ1 66 8 = σ2 98 5) (pr4 : σ1 66 9 = σ2 98 6) (pr5 : σ1 66 10 = σ2 101 43) (pr6 : σ1 69 2 = σ2 101 18) (pr7 : σ1 72 2 = σ2 101 25) (pr8 : σ1 63 5 = σ2 98 7) (pr9 : σ1 64 2 ≤ σ1 64 1) (pr10 : d_RD σ1 σ2) (pr11 : a1 = c1) (pr12 : -4 ≤ a1 ∧ a1 ≤ 7) (pr13 : a1 = -4 ∨ 0 ≤ a1) (pc0 : ((σ1 63 2 = 0) ∧ (σ2 98 13 = 0))) {cs1 cs2 : List d_Fr} {Q : d_Q} (kx0 : ∀ (s t : h_S), h_I s → h_I t → h_F (k_in k_pl) s σ1 → h_F (k_in k_pm) t σ2 → (s 64 2 = t 98 15) → (s 64 4 = t 98 16) → (s 63 2 = t 98 13) → (s 64 2 ≤ s 64 1) → (σ1 64 2 ≤ s 64 2) → (d_ok s t) → (((1 ≤ s 63 2 ∧ s 63 2 ≤ 6) ∧ (1 ≤ t 98 13 ∧ t 98 13 ≤ 6) ∧ (s 63 2 = t 98 13) ∧ (s 63 3 = t 98 14)) ∨ ((s 63 2 = 0) ∧ (s 64 3 = 3) ∧ (t 98 13 = 0) ∧ (t 98 17 = 3) ∧ (s 64 4 < s 64 2) ∧ (σ1 64 2 < s 64 2))) → ∀ lv2 mem2, h_loc [(0, .ref 98)] lv2 → h_R (g_Y ns) t mem2 → h_T g_P (g_Y ns) 56 180 [(0, .ref 63)] [] s (d_cs g_P (g_Y ns) cs1 (d_L g_P (g_Y ns) (154, 165, lv2, []) cs2 mem2 Q))) (kx1 : ∀ (s t : h_S), h_I s → h_I t → h_F (k_in k_pl) s σ1 → h_F (k_in k_pm) t σ2 → (s 64 2 = t 98 15) → (s 64 4 = t 98 16) → (s 63 2 = t 98 13) → (s 64 2 ≤ s 64 1) → (σ1 64 2 ≤ s 64 2) → (((1 ≤ s 63 2 ∧ s 63 2 ≤ 6) ∧ (1 ≤ t 98 13 ∧ t 98 13 ≤ 6) ∧ (s 63 2 = t 98 13) ∧ (s 63 3 = t 98 14))) → ∀ lv2 mem2, h_loc [(0, .ref 98)] lv2 → h_R (g_Y ns) t mem2 → h_T g_P (g_Y ns) 56 180 [(0, .ref 63)] [] s (d_cs g_P (g_Y ns) cs1 (d_L g_P (g_Y ns) (154, 139, lv2, []) cs2 mem2 Q))) (kx2 : ∀ (s t : h_S), h_I s → h_I t → h_F (k_in k_pl) s σ1 → h_F (k_in k_pm) t σ2 → (s 64 2 = t 98 15) → (s 64 4 = t 98 16) → (s 63 2 = t 98 13) → (s 64 2 ≤ s 64 1) → (σ1 64 2 ≤ s 64 2) → (((1 ≤ s 63 2 ∧ s 63 2 ≤ 6) ∧ (1 ≤ t 98 13 ∧ t 98 13 ≤ 6) ∧ (s 63 2 = t 98 13) ∧ (s 63 3 = t 98 14))) → ∀ lv2 mem2, h_loc [(0, .ref 98)] lv2 → h_R (g_Y ns) t mem2 → h_T g_P (g_Y ns) 56 180 [(0, .ref 63)] [] s (d_cs g_P (g_Y ns) cs1 (d_L g_P (g_Y ns) (154, 22, lv2, []) cs2 mem2 Q))) : ∀ lv2 mem2, h_loc [(0, .ref 98), (1, .int y1)] lv2 → h_R (g_Y ns) σ2 mem2 → h_T g_P (g_Y ns) 56 24 [(0, .ref 63), (1, .int x1)] [] σ1 (d_cs g_P (g_Y ns) cs1 (d_L g_P (g_Y ns) (154, 5, lv2, []) cs2 mem2 Q)) := by
  intro lv2 mem2 hl2 hR2
  have hT := hTL.1
  have hL := hTL.2
  have F1 : h_F (k_in k_pl) σ1 σ1 := h_F.rf
  have F2 : h_F (k_in k_pm) σ2 σ2 := h_F.rf
  have ge0 := tf_64_1 hI1
  have ge1 := tf_66_8 hI1
  have ge2 := tf_66_9 hI1
  have ge3 := tf_66_10 hI1
  have ge4 := tf_69_2 hI1
  have ge5 := tf_72_2 hI1
  have ge6 := tf_63_5 hI1
  have ge7 := tf_63_2 hI1
  have ge8 := tf_98_8 hI2
  have ge9 := tf_98_9 hI2
  have ge10 := tf_98_13 hI2
  rcases pc0 with pc0
  · show h_T g_P (g_Y ns) 56 24 [(0, .ref 63), (1, .int x1)] [] σ1 _
    refine h_iload_n (pc' := 25) rfl rfl rfl ?_
    refine h_tsw (dt := 145) (ts := [130, 145, 145, 145, 145, 145, 145, 145, 88, 102, 116, 123]) rfl rfl rfl rfl hx1 (fun c21 => absurd c21 (by omega)) ⟨fun c21 => ?_, fun c21 => absurd c21 (by omega), fun c21 => absurd c21 (by omega), fun c21 => absurd c21 (by omega), fun c21 => ?_, fun c21 => ?_, fun c21 => ?_, fun c21 => ?_, fun c21 => ?_, fun c21 => ?_, fun c21 => ?_, fun c21 => ?_, trivial⟩
    · refine h_aload_n (pc' := 131) rfl rfl rfl ?_
      refine h_iconst (pc' := 132) (x := (Int32.ofInt 2)) rfl rfl rfl ?_
      refine h_aload_n (pc' := 133) rfl rfl rfl ?_
      refine h_getR (pc' := 136) rfl rfl rfl rfl rfl ?_
      refine h_getI (pc' := 139) (v := σ1 64 4) rfl rfl rfl rfl rfl rfl (fun z22 hz22 => ?_)
      have tz22 := tf_64_4 hI1
      refine h_call (sp := false) (pc' := 142) (M := [(0, .ref 63), (1, .int (Int32.ofInt 2)), (2, .int z22)]) rfl rfl rfl rfl rfl rfl rfl rfl ?_
      refine h_aload_n (pc' := 1) rfl rfl rfl ?_
      refine h_getI (pc' := 4) (v := σ1 63 2) rfl rfl rfl rfl rfl rfl (fun z23 hz23 => ?_)
      have tz23 := tf_63_2 hI1
      refine h_zne (tg := 17) (pc' := 7) rfl rfl rfl hz23 (fun c24 => absurd (Int.le_antisymm (by omega) (by omega)) c24) (fun c24 => ?_)
      clear hz23
      refine h_aload_n (pc' := 8) rfl rfl rfl ?_
      refine h_iload_n (pc' := 9) rfl rfl rfl ?_
      refine h_put (pc' := 12) rfl rfl rfl rfl rfl rfl ci_2 rfl (h_fgt (E := fun s => s 64 2 = σ1 64 2 ∧ s 64 4 = σ1 64 4 ∧ s 64 3 = σ1 64 3 ∧ s 64 5 = σ1 64 5 ∧ s 63 2 = 2 ∧ s 63 3 = σ1 63 3 ∧ s 64 1 = σ1 64 1 ∧ s 66 8 = σ1 66 8 ∧ s 66 9 = σ1 66 9 ∧ s 66 10 = σ1 66 10 ∧ s 69 2 = σ1 69 2 ∧ s 72 2 = σ1 72 2 ∧ s 63 5 = σ1 63 5 ∧ s = h_up σ1 63 2 2) _ (if_63_2 hI1 (by omega)) (F1.up rfl) ⟨rfl, rfl, rfl, rfl, rfl, rfl, rfl, rfl, rfl, rfl, rfl, rfl, rfl, rfl⟩ (fun s25 Is25 Fs25 (es25 : s25 64 2 = σ1 64 2 ∧ s25 64 4 = σ1 64 4 ∧ s25 64 3 = σ1 64 3 ∧ s25 64 5 = σ1 64 5 ∧ s25 63 2 = 2 ∧ s25 63 3 = σ1 63 3 ∧ s25 64 1 = σ1 64 1 ∧ s25 66 8 = σ1 66 8 ∧ s25 66 9 = σ1 66 9 ∧ s25 66 10 = σ1 66 10 ∧ s25 69 2 = σ1 69 2 ∧ s25 72 2 = σ1 72 2 ∧ s25 63 5 = σ1 63 5 ∧ s25 = h_up σ1 63 2 2) => ?_))
      have us25 := es25.2.2.2.2.2.2.2.2.2.2.2.2.2
      refine h_aload_n (pc' := 13) rfl rfl rfl ?_
      refine h_iload_n (pc' := 14) rfl rfl rfl ?_
      refine h_put (pc' := 17) rfl rfl rfl rfl rfl rfl hz22 rfl (h_fgt (E := fun s => s 64 2 = σ1 64 2 ∧ s 64 4 = σ1 64 4 ∧ s 64 3 = σ1 64 3 ∧ s 64 5 = σ1 64 5 ∧ s 63 2 = 2 ∧ s 63 3 = (σ1 64 4) ∧ s 64 1 = σ1 64 1 ∧ s 66 8 = σ1 66 8 ∧ s 66 9 = σ1 66 9 ∧ s 66 10 = σ1 66 10 ∧ s 69 2 = σ1 69 2 ∧ s 72 2 = σ1 72 2 ∧ s 63 5 = σ1 63 5 ∧ s = h_up s25 63 3 (σ1 64 4)) _ (if_63_3 Is25 (h_rgv hz22)) (Fs25.up rfl) ⟨es25.1, es25.2.1, es25.2.2.1, es25.2.2.2.1, es25.2.2.2.2.1, rfl, es25.2.2.2.2.2.2.1, es25.2.2.2.2.2.2.2.1, es25.2.2.2.2.2.2.2.2.1, es25.2.2.2.2.2.2.2.2.2.1, es25.2.2.2.2.2.2.2.2.2.2.1, es25.2.2.2.2.2.2.2.2.2.2.2.1, es25.2.2.2.2.2.2.2.2.2.2.2.2.1, rfl⟩ (fun s26 Is26 Fs26 (es26 : s26 64 2 = σ1 64 2 ∧ s26 64 4 = σ1 64 4 ∧ s26 64 3 = σ1 64 3 ∧ s26 64 5 = σ1 64 5 ∧ s26 63 2 = 2 ∧ s26 63 3 = (σ1 64 4) ∧ s26 64 1 = σ1 64 1 ∧ s26 66 8 = σ1 66 8 ∧ s26 66 9 = σ1 66 9 ∧ s26 66 10 = σ1 66 10 ∧ s26 69 2 = σ1 69 2 ∧ s26 72 2 = σ1 72 2 ∧ s26 63 5 = σ1 63 5 ∧ s26 = h_up s25 63 3 (σ1 64 4)) => ?_))
      clear es25
      have us26 := es26.2.2.2.2.2.2.2.2.2.2.2.2.2
      refine h_vret rfl rfl (h_Kn ?_)
      refine h_goto (pc' := 150) rfl rfl ?_
      refine h_aload_n (pc' := 151) rfl rfl rfl ?_
      refine h_getI (pc' := 154) (v := 2) rfl rfl rfl rfl rfl es26.2.2.2.2.1 (fun z27 hz27 => ?_)
      refine h_zne (tg := 180) (pc' := 157) rfl rfl rfl hz27 (fun c28 => ?_) (fun c28 => absurd c28 (by omega))
      clear hz27
      refine d_toM (g_inj ns) hl2 hR2 (fun lvw29 memw29 hlw29 hRw29 => ?_)
      show h_T g_P (g_Y ns) 154 5 [(0, .ref 98), (1, .int y1)] [] σ2 _
      refine h_iload_n (pc' := 6) rfl rfl rfl ?_
      refine h_i2l (pc' := 7) rfl rfl hy1 (fun z30 hz30 => ?_)
      refine h_lconst (pc' := 8) (x := (Int64.ofInt 0)) rfl rfl rfl ?_
      refine h_ldc2 (pc' := 11) (x := (Int64.ofInt 7)) rfl rfl rfl ?_
      refine h_calls (pc' := 14) (M := [(0, .long z30), (2, .long (Int64.ofInt 0)), (4, .long (Int64.ofInt 7))]) rfl rfl rfl rfl rfl rfl ?_
      refine h_lload_n (pc' := 1) rfl rfl rfl ?_
      refine h_lload_n (pc' := 2) rfl rfl rfl ?_
      refine h_lcmp (pc' := 3) rfl rfl hz30 cl_0 (fun z31 hz31 => ?_)
      refine h_zlt (tg := 17) (pc' := 6) rfl rfl rfl rfl (fun c32 => ?_) (fun c32 => absurd c32 (by omega))
      replace c32 := (h_lcr hz31).1 c32
      clear hz31
      refine h_iconst (pc' := 18) (x := (Int32.ofInt 0)) rfl rfl rfl ?_
      refine h_zret rfl rfl ci_0 (by omega) (h_Kv ?_)
      clear hz30
      refine h_zne (tg := 23) (pc' := 17) rfl rfl rfl ci_0 (fun c33 => absurd (Int.le_antisymm (by omega) (by omega)) c33) (fun c33 => ?_)
      refine h_aload_n (pc' := 18) rfl rfl rfl ?_
      refine h_iconst (pc' := 19) (x := (Int32.ofInt 2)) rfl rfl rfl ?_
      refine h_call (sp := false) (pc' := 22) (M := [(0, .ref 98), (1, .int (Int32.ofInt 2))]) rfl rfl rfl rfl rfl rfl rfl rfl ?_
      refine h_aload_n (pc' := 1) rfl rfl rfl ?_
      refine h_getI (pc' := 4) (v := σ2 98 13) rfl rfl rfl rfl rfl rfl (fun z34 hz34 => ?_)
      have tz34 := tf_98_13 hI2
      refine h_zne (tg := 20) (pc' := 7) rfl rfl rfl hz34 (fun c35 => absurd (Int.le_antisymm (by omega) (by omega)) c35) (fun c35 => ?_)
      clear hz34
      refine h_aload_n (pc' := 8) rfl rfl rfl ?_
      refine h_iload_n (pc' := 9) rfl rfl rfl ?_
      refine h_put (pc' := 12) rfl rfl rfl rfl rfl rfl ci_2 rfl (h_fgt (E := fun s => s 98 15 = σ2 98 15 ∧ s 98 16 = σ2 98 16 ∧ s 98 17 = σ2 98 17 ∧ s 98 18 = σ2 98 18 ∧ s 98 13 = 2 ∧ s 98 14 = σ2 98 14 ∧ s 98 5 = σ2 98 5 ∧ s 98 6 = σ2 98 6 ∧ s 98 7 = σ2 98 7 ∧ s 98 8 = σ2 98 8 ∧ s 98 9 = σ2 98 9 ∧ s 101 18 = σ2 101 18 ∧ s 101 25 = σ2 101 25 ∧ s 101 43 = σ2 101 43 ∧ s = h_up σ2 98 13 2) _ (if_98_13 hI2 (by omega)) (F2.up rfl) ⟨rfl, rfl, rfl, rfl, rfl, rfl, rfl, rfl, rfl, rfl, rfl, rfl, rfl, rfl, rfl⟩ (fun s36 Is36 Fs36 (es36 : s36 98 15 = σ2 98 15 ∧ s36 98 16 = σ2 98 16 ∧ s36 98 17 = σ2 98 17 ∧ s36 98 18 = σ2 98 18 ∧ s36 98 13 = 2 ∧ s36 98 14 = σ2 98 14 ∧ s36 98 5 = σ2 98 5 ∧ s36 98 6 = σ2 98 6 ∧ s36 98 7 = σ2 98 7 ∧ s36 98 8 = σ2 98 8 ∧ s36 98 9 = σ2 98 9 ∧ s36 101 18 = σ2 101 18 ∧ s36 101 25 = σ2 101 25 ∧ s36 101 43 = σ2 101 43 ∧ s36 = h_up σ2 98 13 2) => ?_))
      have us36 := es36.2.2.2.2.2.2.2.2.2.2.2.2.2.2
      refine h_aload_n (pc' := 13) rfl rfl rfl ?_
      refine h_aload_n (pc' := 14) rfl rfl rfl ?_
      refine h_getI (pc' := 17) (v := σ2 98 16) rfl rfl rfl rfl rfl es36.2.1 (fun z37 hz37 => ?_)
      have tz37 := tf_98_16 hI2
      refine h_put (pc' := 20) rfl rfl rfl rfl rfl rfl hz37 rfl (h_fgt (E := fun s => s 98 15 = σ2 98 15 ∧ s 98 16 = σ2 98 16 ∧ s 98 17 = σ2 98 17 ∧ s 98 18 = σ2 98 18 ∧ s 98 13 = 2 ∧ s 98 14 = (σ2 98 16) ∧ s 98 5 = σ2 98 5 ∧ s 98 6 = σ2 98 6 ∧ s 98 7 = σ2 98 7 ∧ s 98 8 = σ2 98 8 ∧ s 98 9 = σ2 98 9 ∧ s 101 18 = σ2 101 18 ∧ s 101 25 = σ2 101 25 ∧ s 101 43 = σ2 101 43 ∧ s = h_up s36 98 14 (σ2 98 16)) _ (if_98_14 Is36 (h_rgv hz37)) (Fs36.up rfl) ⟨es36.1, es36.2.1, es36.2.2.1, es36.2.2.2.1, es36.2.2.2.2.1, rfl, es36.2.2.2.2.2.2.1, es36.2.2.2.2.2.2.2.1, es36.2.2.2.2.2.2.2.2.1, es36.2.2.2.2.2.2.2.2.2.1, es36.2.2.2.2.2.2.2.2.2.2.1, es36.2.2.2.2.2.2.2.2.2.2.2.1, es36.2.2.2.2.2.2.2.2.2.2.2.2.1, es36.2.2.2.2.2.2.2.2.2.2.2.2.2.1, rfl⟩ (fun s38 Is38 Fs38 (es38 : s38 98 15 = σ2 98 15 ∧ s38 98 16 = σ2 98 16 ∧ s38 98 17 = σ2 98 17 ∧ s38 98 18 = σ2 98 18 ∧ s38 98 13 = 2 ∧ s38 98 14 = (σ2 98 16) ∧ s38 98 5 = σ2 98 5 ∧ s38 98 6 = σ2 98 6 ∧ s38 98 7 = σ2 98 7 ∧ s38 98 8 = σ2 98 8 ∧ s38 98 9 = σ2 98 9 ∧ s38 101 18 = σ2 101 18 ∧ s38 101 25 = σ2 101 25 ∧ s38 101 43 = σ2 101 43 ∧ s38 = h_up s36 98 14 (σ2 98 16)) => ?_))
      clear es36
      have us38 := es38.2.2.2.2.2.2.2.2.2.2.2.2.2.2
      refine h_vret rfl rfl (h_Kn ?_)
      refine d_toL (g_inj ns) hlw29 hRw29 (fun lvw39 memw39 hlw39 hRw39 => ?_)
      show h_T g_P (g_Y ns) 56 180 [(0, .ref 63), (1, .int x1)] [] s26 _
      exact h_wk [(0, .ref 63)] ⟨rfl, trivial⟩ (kx2 _ _ Is26 Is38 Fs26 Fs38 (Int.le_antisymm (by omega) (by omega)) (Int.le_antisymm (by omega) (by omega)) (Int.le_antisymm (by omega) (by omega)) (by omega) (by omega) ⟨⟨by omega, by omega⟩, ⟨by omega, by omega⟩, Int.le_antisymm (by omega) (by omega), Int.le_antisymm (by omega) (by omega)⟩ _ _ (h_al_ok ⟨rfl, trivial⟩ hlw39) hRw39)
    · refine d_toM (g_inj ns) hl2 hR2 (fun lvw40 memw40 hlw40 hRw40 => ?_)
      show h_T g_P (g_Y ns) 154 5 [(0, .ref 98), (1, .int y1)] [] σ2 _
      refine h_iload_n (pc' := 6) rfl rfl rfl ?_
      refine h_i2l (pc' := 7) rfl rfl hy1 (fun z41 hz41 => ?_)
      refine h_lconst (pc' := 8) (x := (Int64.ofInt 0)) rfl rfl rfl ?_
      refine h_ldc2 (pc' := 11) (x := (Int64.ofInt 7)) rfl rfl rfl ?_
      refine h_calls (pc' := 14) (M := [(0, .long z41), (2, .long (Int64.ofInt 0)), (4, .long (Int64.ofInt 7))]) rfl rfl rfl rfl rfl rfl ?_
      refine h_lload_n (pc' := 1) rfl rfl rfl ?_
      refine h_lload_n (pc' := 2) rfl rfl rfl ?_
      refine h_lcmp (pc' := 3) rfl rfl hz41 cl_0 (fun z42 hz42 => ?_)
      refine h_zlt (tg := 17) (pc' := 6) rfl rfl rfl rfl (fun c43 => absurd c43 (by omega)) (fun c43 => ?_)
      replace c43 := (h_lcr hz42).2.1 c43
      clear hz42
      refine h_lload_n (pc' := 7) rfl rfl rfl ?_
      refine h_lload (pc' := 9) rfl rfl rfl ?_
      refine h_lcmp (pc' := 10) rfl rfl hz41 cl_7 (fun z44 hz44 => ?_)
      refine h_zgt (tg := 17) (pc' := 13) rfl rfl rfl rfl (fun c45 => absurd c45 (by omega)) (fun c45 => ?_)
      replace c45 := (h_lcr hz44).2.2.1 c45
      clear hz44
      refine h_iconst (pc' := 14) (x := (Int32.ofInt 1)) rfl rfl rfl ?_
      refine h_goto (pc' := 18) rfl rfl ?_
      refine h_zret rfl rfl ci_1 (by omega) (h_Kv ?_)
      clear hz41
      refine h_zne (tg := 23) (pc' := 17) rfl rfl rfl ci_1 (fun c46 => ?_) (fun c46 => absurd c46 (by omega))
      refine d_toL (g_inj ns) hlw40 hRw40 (fun lvw47 memw47 hlw47 hRw47 => ?_)
      show h_T g_P (g_Y ns) 56 145 [(0, .ref 63), (1, .int x1)] [] σ1 _
      refine h_wk [(0, .ref 63), (1, .int x1)] ⟨rfl, rfl, trivial⟩ (ls_one hI1 hI2 (hTL.fr (F1.mono rfl) (F2.mono rfl)) x1 _ hx1 y1 _ hy1 (Int.le_antisymm (by omega) (by omega)) (Int.le_antisymm (by omega) (by omega)) (Int.le_antisymm (by omega) (by omega)) (Int.le_antisymm (by omega) (by omega)) (Int.le_antisymm (by omega) (by omega)) (Int.le_antisymm (by omega) (by omega)) (Int.le_antisymm (by omega) (by omega)) (Int.le_antisymm (by omega) (by omega)) (Int.le_antisymm (by omega) (by omega)) (by omega) (pr10) (Int.le_antisymm (by omega) (by omega)) (⟨by omega, by omega⟩) ⟨Int.le_antisymm (by omega) (by omega), Int.le_antisymm (by omega) (by omega)⟩ (fun sq48 tq48 Isq48 Itq48 Gsq48 Gtq48   yq48_0 yq48_1 yq48_2 yq48_3 yq48_4 yq48_5 pcq48 lvq48 memq48 hlq48 hRq48 => ?_) (fun sq49 tq49 Isq49 Itq49 Gsq49 Gtq49   yq49_0 yq49_1 yq49_2 yq49_3 yq49_4 pcq49 lvq49 memq49 hlq49 hRq49 => ?_) _ _ (h_al_ok ⟨rfl, rfl, trivial⟩ hlw47) hRw47)
      · have Fsq48 := (Gsq48.mono (B := k_pl) rfl).tr F1
        have Ftq48 := (Gtq48.mono (B := k_pm) rfl).tr F2
        have Isq48 := Isq48
        have Itq48 := Itq48
        have Gsq48 := Gsq48
        have Gtq48 := Gtq48
        have esq48_6 : sq48 64 1 = σ1 64 1 := (Gsq48 64 1 rfl).trans rfl
        show h_T g_P (g_Y ns) 56 180 [(0, .ref 63)] [] sq48 _
        refine d_toM (g_inj ns) hlq48 hRq48 (fun lvw50 memw50 hlw50 hRw50 => ?_)
        show h_T g_P (g_Y ns) 154 165 [(0, .ref 98)] [] tq48 _
        refine d_toL (g_inj ns) hlw50 hRw50 (fun lvw51 memw51 hlw51 hRw51 => ?_)
        show h_T g_P (g_Y ns) 56 180 [(0, .ref 63)] [] sq48 _
        exact h_wk [(0, .ref 63)] ⟨rfl, trivial⟩ (kx0 _ _ Isq48 Itq48 Fsq48 Ftq48 (Int.le_antisymm (by omega) (by omega)) (Int.le_antisymm (by omega) (by omega)) (Int.le_antisymm (by omega) (by omega)) (by omega) (by omega) (yq48_5) (pcq48.elim (fun pcq48 => (Or.inl ⟨⟨by omega, by omega⟩, ⟨by omega, by omega⟩, Int.le_antisymm (by omega) (by omega), Int.le_antisymm (by omega) (by omega)⟩)) (fun pcq48 => (Or.inr ⟨Int.le_antisymm (by omega) (by omega), Int.le_antisymm (by omega) (by omega), Int.le_antisymm (by omega) (by omega), Int.le_antisymm (by omega) (by omega), by omega, by omega⟩))) _ _ (h_al_ok ⟨rfl, trivial⟩ hlw51) hRw51)
      · have Fsq49 := (Gsq49.mono (B := k_pl) rfl).tr F1
        have Ftq49 := (Gtq49.mono (B := k_pm) rfl).tr F2
        have Isq49 := Isq49
        have Itq49 := Itq49
        have Gsq49 := Gsq49
        have Gtq49 := Gtq49
        have esq49_6 : sq49 64 1 = σ1 64 1 := (Gsq49 64 1 rfl).trans rfl
        show h_T g_P (g_Y ns) 56 180 [(0, .ref 63)] [] sq49 _
        refine d_toM (g_inj ns) hlq49 hRq49 (fun lvw52 memw52 hlw52 hRw52 => ?_)
        show h_T g_P (g_Y ns) 154 139 [(0, .ref 98)] [] tq49 _
        refine d_toL (g_inj ns) hlw52 hRw52 (fun lvw53 memw53 hlw53 hRw53 => ?_)
        show h_T g_P (g_Y ns) 56 180 [(0, .ref 63)] [] sq49 _
        exact h_wk [(0, .ref 63)] ⟨rfl, trivial⟩ (kx1 _ _ Isq49 Itq49 Fsq49 Ftq49 (Int.le_antisymm (by omega) (by omega)) (Int.le_antisymm (by omega) (by omega)) (Int.le_antisymm (by omega) (by omega)) (by omega) (by omega) ⟨⟨by omega, by omega⟩, ⟨by omega, by omega⟩, Int.le_antisymm (by omega) (by omega), Int.le_antisymm (by omega) (by omega)⟩ _ _ (h_al_ok ⟨rfl, trivial⟩ hlw53) hRw53)
    · refine d_toM (g_inj ns) hl2 hR2 (fun lvw54 memw54 hlw54 hRw54 => ?_)
      show h_T g_P (g_Y ns) 154 5 [(0, .ref 98), (1, .int y1)] [] σ2 _
      refine h_iload_n (pc' := 6) rfl rfl rfl ?_
      refine h_i2l (pc' := 7) rfl rfl hy1 (fun z55 hz55 => ?_)
      refine h_lconst (pc' := 8) (x := (Int64.ofInt 0)) rfl rfl rfl ?_
      refine h_ldc2 (pc' := 11) (x := (Int64.ofInt 7)) rfl rfl rfl ?_
      refine h_calls (pc' := 14) (M := [(0, .long z55), (2, .long (Int64.ofInt 0)), (4, .long (Int64.ofInt 7))]) rfl rfl rfl rfl rfl rfl ?_
      refine h_lload_n (pc' := 1) rfl rfl rfl ?_
      refine h_lload_n (pc' := 2) rfl rfl rfl ?_
      refine h_lcmp (pc' := 3) rfl rfl hz55 cl_0 (fun z56 hz56 => ?_)
      refine h_zlt (tg := 17) (pc' := 6) rfl rfl rfl rfl (fun c57 => absurd c57 (by omega)) (fun c57 => ?_)
      replace c57 := (h_lcr hz56).2.1 c57
      clear hz56
      refine h_lload_n (pc' := 7) rfl rfl rfl ?_
      refine h_lload (pc' := 9) rfl rfl rfl ?_
      refine h_lcmp (pc' := 10) rfl rfl hz55 cl_7 (fun z58 hz58 => ?_)
      refine h_zgt (tg := 17) (pc' := 13) rfl rfl rfl rfl (fun c59 => absurd c59 (by omega)) (fun c59 => ?_)
      replace c59 := (h_lcr hz58).2.2.1 c59
      clear hz58
      refine h_iconst (pc' := 14) (x := (Int32.ofInt 1)) rfl rfl rfl ?_
      refine h_goto (pc' := 18) rfl rfl ?_
      refine h_zret rfl rfl ci_1 (by omega) (h_Kv ?_)
      clear hz55
      refine h_zne (tg := 23) (pc' := 17) rfl rfl rfl ci_1 (fun c60 => ?_) (fun c60 => absurd c60 (by omega))
      refine d_toL (g_inj ns) hlw54 hRw54 (fun lvw61 memw61 hlw61 hRw61 => ?_)
      show h_T g_P (g_Y ns) 56 145 [(0, .ref 63), (1, .int x1)] [] σ1 _
      refine h_wk [(0, .ref 63), (1, .int x1)] ⟨rfl, rfl, trivial⟩ (ls_one hI1 hI2 (hTL.fr (F1.mono rfl) (F2.mono rfl)) x1 _ hx1 y1 _ hy1 (Int.le_antisymm (by omega) (by omega)) (Int.le_antisymm (by omega) (by omega)) (Int.le_antisymm (by omega) (by omega)) (Int.le_antisymm (by omega) (by omega)) (Int.le_antisymm (by omega) (by omega)) (Int.le_antisymm (by omega) (by omega)) (Int.le_antisymm (by omega) (by omega)) (Int.le_antisymm (by omega) (by omega)) (Int.le_antisymm (by omega) (by omega)) (by omega) (pr10) (Int.le_antisymm (by omega) (by omega)) (⟨by omega, by omega⟩) ⟨Int.le_antisymm (by omega) (by omega), Int.le_antisymm (by omega) (by omega)⟩ (fun sq62 tq62 Isq62 Itq62 Gsq62 Gtq62   yq62_0 yq62_1 yq62_2 yq62_3 yq62_4 yq62_5 pcq62 lvq62 memq62 hlq62 hRq62 => ?_) (fun sq63 tq63 Isq63 Itq63 Gsq63 Gtq63   yq63_0 yq63_1 yq63_2 yq63_3 yq63_4 pcq63 lvq63 memq63 hlq63 hRq63 => ?_) _ _ (h_al_ok ⟨rfl, rfl, trivial⟩ hlw61) hRw61)
      · have Fsq62 := (Gsq62.mono (B := k_pl) rfl).tr F1
        have Ftq62 := (Gtq62.mono (B := k_pm) rfl).tr F2
        have Isq62 := Isq62
        have Itq62 := Itq62
        have Gsq62 := Gsq62
        have Gtq62 := Gtq62
        have esq62_6 : sq62 64 1 = σ1 64 1 := (Gsq62 64 1 rfl).trans rfl
        show h_T g_P (g_Y ns) 56 180 [(0, .ref 63)] [] sq62 _
        refine d_toM (g_inj ns) hlq62 hRq62 (fun lvw64 memw64 hlw64 hRw64 => ?_)
        show h_T g_P (g_Y ns) 154 165 [(0, .ref 98)] [] tq62 _
        refine d_toL (g_inj ns) hlw64 hRw64 (fun lvw65 memw65 hlw65 hRw65 => ?_)
        show h_T g_P (g_Y ns) 56 180 [(0, .ref 63)] [] sq62 _
        exact h_wk [(0, .ref 63)] ⟨rfl, trivial⟩ (kx0 _ _ Isq62 Itq62 Fsq62 Ftq62 (Int.le_antisymm (by omega) (by omega)) (Int.le_antisymm (by omega) (by omega)) (Int.le_antisymm (by omega) (by omega)) (by omega) (by omega) (yq62_5) (pcq62.elim (fun pcq62 => (Or.inl ⟨⟨by omega, by omega⟩, ⟨by omega, by omega⟩, Int.le_antisymm (by omega) (by omega), Int.le_antisymm (by omega) (by omega)⟩)) (fun pcq62 => (Or.inr ⟨Int.le_antisymm (by omega) (by omega), Int.le_antisymm (by omega) (by omega), Int.le_antisymm (by omega) (by omega), Int.le_antisymm (by omega) (by omega), by omega, by omega⟩))) _ _ (h_al_ok ⟨rfl, trivial⟩ hlw65) hRw65)
      · have Fsq63 := (Gsq63.mono (B := k_pl) rfl).tr F1
        have Ftq63 := (Gtq63.mono (B := k_pm) rfl).tr F2
        have Isq63 := Isq63
        have Itq63 := Itq63
        have Gsq63 := Gsq63
        have Gtq63 := Gtq63
        have esq63_6 : sq63 64 1 = σ1 64 1 := (Gsq63 64 1 rfl).trans rfl
        show h_T g_P (g_Y ns) 56 180 [(0, .ref 63)] [] sq63 _
        refine d_toM (g_inj ns) hlq63 hRq63 (fun lvw66 memw66 hlw66 hRw66 => ?_)
        show h_T g_P (g_Y ns) 154 139 [(0, .ref 98)] [] tq63 _
        refine d_toL (g_inj ns) hlw66 hRw66 (fun lvw67 memw67 hlw67 hRw67 => ?_)
        show h_T g_P (g_Y ns) 56 180 [(0, .ref 63)] [] sq63 _
        exact h_wk [(0, .ref 63)] ⟨rfl, trivial⟩ (kx1 _ _ Isq63 Itq63 Fsq63 Ftq63 (Int.le_antisymm (by omega) (by omega)) (Int.le_antisymm (by omega) (by omega)) (Int.le_antisymm (by omega) (by omega)) (by omega) (by omega) ⟨⟨by omega, by omega⟩, ⟨by omega, by omega⟩, Int.le_antisymm (by omega) (by omega), Int.le_antisymm (by omega) (by omega)⟩ _ _ (h_al_ok ⟨rfl, trivial⟩ hlw67) hRw67)
    · refine d_toM (g_inj ns) hl2 hR2 (fun lvw68 memw68 hlw68 hRw68 => ?_)
      show h_T g_P (g_Y ns) 154 5 [(0, .ref 98), (1, .int y1)] [] σ2 _
      refine h_iload_n (pc' := 6) rfl rfl rfl ?_
      refine h_i2l (pc' := 7) rfl rfl hy1 (fun z69 hz69 => ?_)
      refine h_lconst (pc' := 8) (x := (Int64.ofInt 0)) rfl rfl rfl ?_
      refine h_ldc2 (pc' := 11) (x := (Int64.ofInt 7)) rfl rfl rfl ?_
      refine h_calls (pc' := 14) (M := [(0, .long z69), (2, .long (Int64.ofInt 0)), (4, .long (Int64.ofInt 7))]) rfl rfl rfl rfl rfl rfl ?_
      refine h_lload_n (pc' := 1) rfl rfl rfl ?_
      refine h_lload_n (pc' := 2) rfl rfl rfl ?_
      refine h_lcmp (pc' := 3) rfl rfl hz69 cl_0 (fun z70 hz70 => ?_)
      refine h_zlt (tg := 17) (pc' := 6) rfl rfl rfl rfl (fun c71 => absurd c71 (by omega)) (fun c71 => ?_)
      replace c71 := (h_lcr hz70).2.1 c71
      clear hz70
      refine h_lload_n (pc' := 7) rfl rfl rfl ?_
      refine h_lload (pc' := 9) rfl rfl rfl ?_
      refine h_lcmp (pc' := 10) rfl rfl hz69 cl_7 (fun z72 hz72 => ?_)
      refine h_zgt (tg := 17) (pc' := 13) rfl rfl rfl rfl (fun c73 => absurd c73 (by omega)) (fun c73 => ?_)
      replace c73 := (h_lcr hz72).2.2.1 c73
      clear hz72
      refine h_iconst (pc' := 14) (x := (Int32.ofInt 1)) rfl rfl rfl ?_
      refine h_goto (pc' := 18) rfl rfl ?_
      refine h_zret rfl rfl ci_1 (by omega) (h_Kv ?_)
      clear hz69
      refine h_zne (tg := 23) (pc' := 17) rfl rfl rfl ci_1 (fun c74 => ?_) (fun c74 => absurd c74 (by omega))
      refine d_toL (g_inj ns) hlw68 hRw68 (fun lvw75 memw75 hlw75 hRw75 => ?_)
      show h_T g_P (g_Y ns) 56 145 [(0, .ref 63), (1, .int x1)] [] σ1 _
      refine h_wk [(0, .ref 63), (1, .int x1)] ⟨rfl, rfl, trivial⟩ (ls_one hI1 hI2 (hTL.fr (F1.mono rfl) (F2.mono rfl)) x1 _ hx1 y1 _ hy1 (Int.le_antisymm (by omega) (by omega)) (Int.le_antisymm (by omega) (by omega)) (Int.le_antisymm (by omega) (by omega)) (Int.le_antisymm (by omega) (by omega)) (Int.le_antisymm (by omega) (by omega)) (Int.le_antisymm (by omega) (by omega)) (Int.le_antisymm (by omega) (by omega)) (Int.le_antisymm (by omega) (by omega)) (Int.le_antisymm (by omega) (by omega)) (by omega) (pr10) (Int.le_antisymm (by omega) (by omega)) (⟨by omega, by omega⟩) ⟨Int.le_antisymm (by omega) (by omega), Int.le_antisymm (by omega) (by omega)⟩ (fun sq76 tq76 Isq76 Itq76 Gsq76 Gtq76   yq76_0 yq76_1 yq76_2 yq76_3 yq76_4 yq76_5 pcq76 lvq76 memq76 hlq76 hRq76 => ?_) (fun sq77 tq77 Isq77 Itq77 Gsq77 Gtq77   yq77_0 yq77_1 yq77_2 yq77_3 yq77_4 pcq77 lvq77 memq77 hlq77 hRq77 => ?_) _ _ (h_al_ok ⟨rfl, rfl, trivial⟩ hlw75) hRw75)
      · have Fsq76 := (Gsq76.mono (B := k_pl) rfl).tr F1
        have Ftq76 := (Gtq76.mono (B := k_pm) rfl).tr F2
        have Isq76 := Isq76
        have Itq76 := Itq76
        have Gsq76 := Gsq76
        have Gtq76 := Gtq76
        have esq76_6 : sq76 64 1 = σ1 64 1 := (Gsq76 64 1 rfl).trans rfl
        show h_T g_P (g_Y ns) 56 180 [(0, .ref 63)] [] sq76 _
        refine d_toM (g_inj ns) hlq76 hRq76 (fun lvw78 memw78 hlw78 hRw78 => ?_)
        show h_T g_P (g_Y ns) 154 165 [(0, .ref 98)] [] tq76 _
        refine d_toL (g_inj ns) hlw78 hRw78 (fun lvw79 memw79 hlw79 hRw79 => ?_)
        show h_T g_P (g_Y ns) 56 180 [(0, .ref 63)] [] sq76 _
        exact h_wk [(0, .ref 63)] ⟨rfl, trivial⟩ (kx0 _ _ Isq76 Itq76 Fsq76 Ftq76 (Int.le_antisymm (by omega) (by omega)) (Int.le_antisymm (by omega) (by omega)) (Int.le_antisymm (by omega) (by omega)) (by omega) (by omega) (yq76_5) (pcq76.elim (fun pcq76 => (Or.inl ⟨⟨by omega, by omega⟩, ⟨by omega, by omega⟩, Int.le_antisymm (by omega) (by omega), Int.le_antisymm (by omega) (by omega)⟩)) (fun pcq76 => (Or.inr ⟨Int.le_antisymm (by omega) (by omega), Int.le_antisymm (by omega) (by omega), Int.le_antisymm (by omega) (by omega), Int.le_antisymm (by omega) (by omega), by omega, by omega⟩))) _ _ (h_al_ok ⟨rfl, trivial⟩ hlw79) hRw79)
      · have Fsq77 := (Gsq77.mono (B := k_pl) rfl).tr F1
        have Ftq77 := (Gtq77.mono (B := k_pm) rfl).tr F2
        have Isq77 := Isq77
        have Itq77 := Itq77
        have Gsq77 := Gsq77
        have Gtq77 := Gtq77
        have esq77_6 : sq77 64 1 = σ1 64 1 := (Gsq77 64 1 rfl).trans rfl
        show h_T g_P (g_Y ns) 56 180 [(0, .ref 63)] [] sq77 _
        refine d_toM (g_inj ns) hlq77 hRq77 (fun lvw80 memw80 hlw80 hRw80 => ?_)
        show h_T g_P (g_Y ns) 154 139 [(0, .ref 98)] [] tq77 _
        refine d_toL (g_inj ns) hlw80 hRw80 (fun lvw81 memw81 hlw81 hRw81 => ?_)
        show h_T g_P (g_Y ns) 56 180 [(0, .ref 63)] [] sq77 _
        exact h_wk [(0, .ref 63)] ⟨rfl, trivial⟩ (kx1 _ _ Isq77 Itq77 Fsq77 Ftq77 (Int.le_antisymm (by omega) (by omega)) (Int.le_antisymm (by omega) (by omega)) (Int.le_antisymm (by omega) (by omega)) (by omega) (by omega) ⟨⟨by omega, by omega⟩, ⟨by omega, by omega⟩, Int.le_antisymm (by omega) (by omega), Int.le_antisymm (by omega) (by omega)⟩ _ _ (h_al_ok ⟨rfl, trivial⟩ hlw81) hRw81)
    · refine d_toM (g_inj ns) hl2 hR2 (fun lvw82 memw82 hlw82 hRw82 => ?_)
      show h_T g_P (g_Y ns) 154 5 [(0, .ref 98), (1, .int y1)] [] σ2 _
      refine h_iload_n (pc' := 6) rfl rfl rfl ?_
      refine h_i2l (pc' := 7) rfl rfl hy1 (fun z83 hz83 => ?_)
      refine h_lconst (pc' := 8) (x := (Int64.ofInt 0)) rfl rfl rfl ?_
      refine h_ldc2 (pc' := 11) (x := (Int64.ofInt 7)) rfl rfl rfl ?_
      refine h_calls (pc' := 14) (M := [(0, .long z83), (2, .long (Int64.ofInt 0)), (4, .long (Int64.ofInt 7))]) rfl rfl rfl rfl rfl rfl ?_
      refine h_lload_n (pc' := 1) rfl rfl rfl ?_
      refine h_lload_n (pc' := 2) rfl rfl rfl ?_
      refine h_lcmp (pc' := 3) rfl rfl hz83 cl_0 (fun z84 hz84 => ?_)
      refine h_zlt (tg := 17) (pc' := 6) rfl rfl rfl rfl (fun c85 => absurd c85 (by omega)) (fun c85 => ?_)
      replace c85 := (h_lcr hz84).2.1 c85
      clear hz84
      refine h_lload_n (pc' := 7) rfl rfl rfl ?_
      refine h_lload (pc' := 9) rfl rfl rfl ?_
      refine h_lcmp (pc' := 10) rfl rfl hz83 cl_7 (fun z86 hz86 => ?_)
      refine h_zgt (tg := 17) (pc' := 13) rfl rfl rfl rfl (fun c87 => absurd c87 (by omega)) (fun c87 => ?_)
      replace c87 := (h_lcr hz86).2.2.1 c87
      clear hz86
      refine h_iconst (pc' := 14) (x := (Int32.ofInt 1)) rfl rfl rfl ?_
      refine h_goto (pc' := 18) rfl rfl ?_
      refine h_zret rfl rfl ci_1 (by omega) (h_Kv ?_)
      clear hz83
      refine h_zne (tg := 23) (pc' := 17) rfl rfl rfl ci_1 (fun c88 => ?_) (fun c88 => absurd c88 (by omega))
      refine d_toL (g_inj ns) hlw82 hRw82 (fun lvw89 memw89 hlw89 hRw89 => ?_)
      show h_T g_P (g_Y ns) 56 145 [(0, .ref 63), (1, .int x1)] [] σ1 _
      refine h_wk [(0, .ref 63), (1, .int x1)] ⟨rfl, rfl, trivial⟩ (ls_one hI1 hI2 (hTL.fr (F1.mono rfl) (F2.mono rfl)) x1 _ hx1 y1 _ hy1 (Int.le_antisymm (by omega) (by omega)) (Int.le_antisymm (by omega) (by omega)) (Int.le_antisymm (by omega) (by omega)) (Int.le_antisymm (by omega) (by omega)) (Int.le_antisymm (by omega) (by omega)) (Int.le_antisymm (by omega) (by omega)) (Int.le_antisymm (by omega) (by omega)) (Int.le_antisymm (by omega) (by omega)) (Int.le_antisymm (by omega) (by omega)) (by omega) (pr10) (Int.le_antisymm (by omega) (by omega)) (⟨by omega, by omega⟩) ⟨Int.le_antisymm (by omega) (by omega), Int.le_antisymm (by omega) (by omega)⟩ (fun sq90 tq90 Isq90 Itq90 Gsq90 Gtq90   yq90_0 yq90_1 yq90_2 yq90_3 yq90_4 yq90_5 pcq90 lvq90 memq90 hlq90 hRq90 => ?_) (fun sq91 tq91 Isq91 Itq91 Gsq91 Gtq91   yq91_0 yq91_1 yq91_2 yq91_3 yq91_4 pcq91 lvq91 memq91 hlq91 hRq91 => ?_) _ _ (h_al_ok ⟨rfl, rfl, trivial⟩ hlw89) hRw89)
      · have Fsq90 := (Gsq90.mono (B := k_pl) rfl).tr F1
        have Ftq90 := (Gtq90.mono (B := k_pm) rfl).tr F2
        have Isq90 := Isq90
        have Itq90 := Itq90
        have Gsq90 := Gsq90
        have Gtq90 := Gtq90
        have esq90_6 : sq90 64 1 = σ1 64 1 := (Gsq90 64 1 rfl).trans rfl
        show h_T g_P (g_Y ns) 56 180 [(0, .ref 63)] [] sq90 _
        refine d_toM (g_inj ns) hlq90 hRq90 (fun lvw92 memw92 hlw92 hRw92 => ?_)
        show h_T g_P (g_Y ns) 154 165 [(0, .ref 98)] [] tq90 _
        refine d_toL (g_inj ns) hlw92 hRw92 (fun lvw93 memw93 hlw93 hRw93 => ?_)
        show h_T g_P (g_Y ns) 56 180 [(0, .ref 63)] [] sq90 _
        exact h_wk [(0, .ref 63)] ⟨rfl, trivial⟩ (kx0 _ _ Isq90 Itq90 Fsq90 Ftq90 (Int.le_antisymm (by omega) (by omega)) (Int.le_antisymm (by omega) (by omega)) (Int.le_antisymm (by omega) (by omega)) (by omega) (by omega) (yq90_5) (pcq90.elim (fun pcq90 => (Or.inl ⟨⟨by omega, by omega⟩, ⟨by omega, by omega⟩, Int.le_antisymm (by omega) (by omega), Int.le_antisymm (by omega) (by omega)⟩)) (fun pcq90 => (Or.inr ⟨Int.le_antisymm (by omega) (by omega), Int.le_antisymm (by omega) (by omega), Int.le_antisymm (by omega) (by omega), Int.le_antisymm (by omega) (by omega), by omega, by omega⟩))) _ _ (h_al_ok ⟨rfl, trivial⟩ hlw93) hRw93)
      · have Fsq91 := (Gsq91.mono (B := k_pl) rfl).tr F1
        have Ftq91 := (Gtq91.mono (B := k_pm) rfl).tr F2
        have Isq91 := Isq91
        have Itq91 := Itq91
        have Gsq91 := Gsq91
        have Gtq91 := Gtq91
        have esq91_6 : sq91 64 1 = σ1 64 1 := (Gsq91 64 1 rfl).trans rfl
        show h_T g_P (g_Y ns) 56 180 [(0, .ref 63)] [] sq91 _
        refine d_toM (g_inj ns) hlq91 hRq91 (fun lvw94 memw94 hlw94 hRw94 => ?_)
        show h_T g_P (g_Y ns) 154 139 [(0, .ref 98)] [] tq91 _
        refine d_toL (g_inj ns) hlw94 hRw94 (fun lvw95 memw95 hlw95 hRw95 => ?_)
        show h_T g_P (g_Y ns) 56 180 [(0, .ref 63)] [] sq91 _
        exact h_wk [(0, .ref 63)] ⟨rfl, trivial⟩ (kx1 _ _ Isq91 Itq91 Fsq91 Ftq91 (Int.le_antisymm (by omega) (by omega)) (Int.le_antisymm (by omega) (by omega)) (Int.le_antisymm (by omega) (by omega)) (by omega) (by omega) ⟨⟨by omega, by omega⟩, ⟨by omega, by omega⟩, Int.le_antisymm (by omega) (by omega), Int.le_antisymm (by omega) (by omega)⟩ _ _ (h_al_ok ⟨rfl, trivial⟩ hlw95) hRw95)
    · refine d_toM (g_inj ns) hl2 hR2 (fun lvw96 memw96 hlw96 hRw96 => ?_)
      show h_T g_P (g_Y ns) 154 5 [(0, .ref 98), (1, .int y1)] [] σ2 _
      refine h_iload_n (pc' := 6) rfl rfl rfl ?_
      refine h_i2l (pc' := 7) rfl rfl hy1 (fun z97 hz97 => ?_)
      refine h_lconst (pc' := 8) (x := (Int64.ofInt 0)) rfl rfl rfl ?_
      refine h_ldc2 (pc' := 11) (x := (Int64.ofInt 7)) rfl rfl rfl ?_
      refine h_calls (pc' := 14) (M := [(0, .long z97), (2, .long (Int64.ofInt 0)), (4, .long (Int64.ofInt 7))]) rfl rfl rfl rfl rfl rfl ?_
      refine h_lload_n (pc' := 1) rfl rfl rfl ?_
      refine h_lload_n (pc' := 2) rfl rfl rfl ?_
      refine h_lcmp (pc' := 3) rfl rfl hz97 cl_0 (fun z98 hz98 => ?_)
      refine h_zlt (tg := 17) (pc' := 6) rfl rfl rfl rfl (fun c99 => absurd c99 (by omega)) (fun c99 => ?_)
      replace c99 := (h_lcr hz98).2.1 c99
      clear hz98
      refine h_lload_n (pc' := 7) rfl rfl rfl ?_
      refine h_lload (pc' := 9) rfl rfl rfl ?_
      refine h_lcmp (pc' := 10) rfl rfl hz97 cl_7 (fun z100 hz100 => ?_)
      refine h_zgt (tg := 17) (pc' := 13) rfl rfl rfl rfl (fun c101 => absurd c101 (by omega)) (fun c101 => ?_)
      replace c101 := (h_lcr hz100).2.2.1 c101
      clear hz100
      refine h_iconst (pc' := 14) (x := (Int32.ofInt 1)) rfl rfl rfl ?_
      refine h_goto (pc' := 18) rfl rfl ?_
      refine h_zret rfl rfl ci_1 (by omega) (h_Kv ?_)
      clear hz97
      refine h_zne (tg := 23) (pc' := 17) rfl rfl rfl ci_1 (fun c102 => ?_) (fun c102 => absurd c102 (by omega))
      refine d_toL (g_inj ns) hlw96 hRw96 (fun lvw103 memw103 hlw103 hRw103 => ?_)
      show h_T g_P (g_Y ns) 56 88 [(0, .ref 63), (1, .int x1)] [] σ1 _
      refine h_wk [(0, .ref 63), (1, .int x1)] ⟨rfl, rfl, trivial⟩ (ls_mar hI1 hI2 (hTL.fr (F1.mono rfl) (F2.mono rfl)) x1 _ hx1 y1 _ hy1 (Int.le_antisymm (by omega) (by omega)) (Int.le_antisymm (by omega) (by omega)) (Int.le_antisymm (by omega) (by omega)) (Int.le_antisymm (by omega) (by omega)) (Int.le_antisymm (by omega) (by omega)) (Int.le_antisymm (by omega) (by omega)) (Int.le_antisymm (by omega) (by omega)) (Int.le_antisymm (by omega) (by omega)) (Int.le_antisymm (by omega) (by omega)) (by omega) (pr10) (Int.le_antisymm (by omega) (by omega)) (Int.le_antisymm (by omega) (by omega)) ⟨Int.le_antisymm (by omega) (by omega), Int.le_antisymm (by omega) (by omega)⟩ (fun sq104 tq104 Isq104 Itq104 Gsq104 Gtq104   yq104_0 yq104_1 yq104_2 yq104_3 yq104_4 yq104_5 pcq104 lvq104 memq104 hlq104 hRq104 => ?_) (fun sq105 tq105 Isq105 Itq105 Gsq105 Gtq105   yq105_0 yq105_1 yq105_2 yq105_3 yq105_4 pcq105 lvq105 memq105 hlq105 hRq105 => ?_) _ _ (h_al_ok ⟨rfl, rfl, trivial⟩ hlw103) hRw103)
      · have Fsq104 := (Gsq104.mono (B := k_pl) rfl).tr F1
        have Ftq104 := (Gtq104.mono (B := k_pm) rfl).tr F2
        have Isq104 := Isq104
        have Itq104 := Itq104
        have Gsq104 := Gsq104
        have Gtq104 := Gtq104
        have esq104_6 : sq104 64 1 = σ1 64 1 := (Gsq104 64 1 rfl).trans rfl
        show h_T g_P (g_Y ns) 56 180 [(0, .ref 63)] [] sq104 _
        refine d_toM (g_inj ns) hlq104 hRq104 (fun lvw106 memw106 hlw106 hRw106 => ?_)
        show h_T g_P (g_Y ns) 154 165 [(0, .ref 98)] [] tq104 _
        refine d_toL (g_inj ns) hlw106 hRw106 (fun lvw107 memw107 hlw107 hRw107 => ?_)
        show h_T g_P (g_Y ns) 56 180 [(0, .ref 63)] [] sq104 _
        exact h_wk [(0, .ref 63)] ⟨rfl, trivial⟩ (kx0 _ _ Isq104 Itq104 Fsq104 Ftq104 (Int.le_antisymm (by omega) (by omega)) (Int.le_antisymm (by omega) (by omega)) (Int.le_antisymm (by omega) (by omega)) (by omega) (by omega) (yq104_5) (pcq104.elim (fun pcq104 => (Or.inl ⟨⟨by omega, by omega⟩, ⟨by omega, by omega⟩, Int.le_antisymm (by omega) (by omega), Int.le_antisymm (by omega) (by omega)⟩)) (fun pcq104 => (Or.inr ⟨Int.le_antisymm (by omega) (by omega), Int.le_antisymm (by omega) (by omega), Int.le_antisymm (by omega) (by omega), Int.le_antisymm (by omega) (by omega), by omega, by omega⟩))) _ _ (h_al_ok ⟨rfl, trivial⟩ hlw107) hRw107)
      · have Fsq105 := (Gsq105.mono (B := k_pl) rfl).tr F1
        have Ftq105 := (Gtq105.mono (B := k_pm) rfl).tr F2
        have Isq105 := Isq105
        have Itq105 := Itq105
        have Gsq105 := Gsq105
        have Gtq105 := Gtq105
        have esq105_6 : sq105 64 1 = σ1 64 1 := (Gsq105 64 1 rfl).trans rfl
        show h_T g_P (g_Y ns) 56 180 [(0, .ref 63)] [] sq105 _
        refine d_toM (g_inj ns) hlq105 hRq105 (fun lvw108 memw108 hlw108 hRw108 => ?_)
        show h_T g_P (g_Y ns) 154 139 [(0, .ref 98)] [] tq105 _
        refine d_toL (g_inj ns) hlw108 hRw108 (fun lvw109 memw109 hlw109 hRw109 => ?_)
        show h_T g_P (g_Y ns) 56 180 [(0, .ref 63)] [] sq105 _
        exact h_wk [(0, .ref 63)] ⟨rfl, trivial⟩ (kx1 _ _ Isq105 Itq105 Fsq105 Ftq105 (Int.le_antisymm (by omega) (by omega)) (Int.le_antisymm (by omega) (by omega)) (Int.le_antisymm (by omega) (by omega)) (by omega) (by omega) ⟨⟨by omega, by omega⟩, ⟨by omega, by omega⟩, Int.le_antisymm (by omega) (by omega), Int.le_antisymm (by omega) (by omega)⟩ _ _ (h_al_ok ⟨rfl, trivial⟩ hlw109) hRw109)
    · refine d_toM (g_inj ns) hl2 hR2 (fun lvw110 memw110 hlw110 hRw110 => ?_)
      show h_T g_P (g_Y ns) 154 5 [(0, .ref 98), (1, .int y1)] [] σ2 _
      refine h_iload_n (pc' := 6) rfl rfl rfl ?_
      refine h_i2l (pc' := 7) rfl rfl hy1 (fun z111 hz111 => ?_)
      refine h_lconst (pc' := 8) (x := (Int64.ofInt 0)) rfl rfl rfl ?_
      refine h_ldc2 (pc' := 11) (x := (Int64.ofInt 7)) rfl rfl rfl ?_
      refine h_calls (pc' := 14) (M := [(0, .long z111), (2, .long (Int64.ofInt 0)), (4, .long (Int64.ofInt 7))]) rfl rfl rfl rfl rfl rfl ?_
      refine h_lload_n (pc' := 1) rfl rfl rfl ?_
      refine h_lload_n (pc' := 2) rfl rfl rfl ?_
      refine h_lcmp (pc' := 3) rfl rfl hz111 cl_0 (fun z112 hz112 => ?_)
      refine h_zlt (tg := 17) (pc' := 6) rfl rfl rfl rfl (fun c113 => absurd c113 (by omega)) (fun c113 => ?_)
      replace c113 := (h_lcr hz112).2.1 c113
      clear hz112
      refine h_lload_n (pc' := 7) rfl rfl rfl ?_
      refine h_lload (pc' := 9) rfl rfl rfl ?_
      refine h_lcmp (pc' := 10) rfl rfl hz111 cl_7 (fun z114 hz114 => ?_)
      refine h_zgt (tg := 17) (pc' := 13) rfl rfl rfl rfl (fun c115 => absurd c115 (by omega)) (fun c115 => ?_)
      replace c115 := (h_lcr hz114).2.2.1 c115
      clear hz114
      refine h_iconst (pc' := 14) (x := (Int32.ofInt 1)) rfl rfl rfl ?_
      refine h_goto (pc' := 18) rfl rfl ?_
      refine h_zret rfl rfl ci_1 (by omega) (h_Kv ?_)
      clear hz111
      refine h_zne (tg := 23) (pc' := 17) rfl rfl rfl ci_1 (fun c116 => ?_) (fun c116 => absurd c116 (by omega))
      refine d_toL (g_inj ns) hlw110 hRw110 (fun lvw117 memw117 hlw117 hRw117 => ?_)
      show h_T g_P (g_Y ns) 56 102 [(0, .ref 63), (1, .int x1)] [] σ1 _
      refine h_wk [(0, .ref 63), (1, .int x1)] ⟨rfl, rfl, trivial⟩ (ls_feu hI1 hI2 (hTL.fr (F1.mono rfl) (F2.mono rfl)) x1 _ hx1 y1 _ hy1 (Int.le_antisymm (by omega) (by omega)) (Int.le_antisymm (by omega) (by omega)) (Int.le_antisymm (by omega) (by omega)) (Int.le_antisymm (by omega) (by omega)) (Int.le_antisymm (by omega) (by omega)) (Int.le_antisymm (by omega) (by omega)) (Int.le_antisymm (by omega) (by omega)) (Int.le_antisymm (by omega) (by omega)) (Int.le_antisymm (by omega) (by omega)) (by omega) (pr10) (Int.le_antisymm (by omega) (by omega)) (Int.le_antisymm (by omega) (by omega)) ⟨Int.le_antisymm (by omega) (by omega), Int.le_antisymm (by omega) (by omega)⟩ (fun sq118 tq118 Isq118 Itq118 Gsq118 Gtq118   yq118_0 yq118_1 yq118_2 yq118_3 yq118_4 yq118_5 pcq118 lvq118 memq118 hlq118 hRq118 => ?_) (fun sq119 tq119 Isq119 Itq119 Gsq119 Gtq119   yq119_0 yq119_1 yq119_2 yq119_3 yq119_4 pcq119 lvq119 memq119 hlq119 hRq119 => ?_) _ _ (h_al_ok ⟨rfl, rfl, trivial⟩ hlw117) hRw117)
      · have Fsq118 := (Gsq118.mono (B := k_pl) rfl).tr F1
        have Ftq118 := (Gtq118.mono (B := k_pm) rfl).tr F2
        have Isq118 := Isq118
        have Itq118 := Itq118
        have Gsq118 := Gsq118
        have Gtq118 := Gtq118
        have esq118_6 : sq118 64 1 = σ1 64 1 := (Gsq118 64 1 rfl).trans rfl
        show h_T g_P (g_Y ns) 56 180 [(0, .ref 63)] [] sq118 _
        refine d_toM (g_inj ns) hlq118 hRq118 (fun lvw120 memw120 hlw120 hRw120 => ?_)
        show h_T g_P (g_Y ns) 154 165 [(0, .ref 98)] [] tq118 _
        refine d_toL (g_inj ns) hlw120 hRw120 (fun lvw121 memw121 hlw121 hRw121 => ?_)
        show h_T g_P (g_Y ns) 56 180 [(0, .ref 63)] [] sq118 _
        exact h_wk [(0, .ref 63)] ⟨rfl, trivial⟩ (kx0 _ _ Isq118 Itq118 Fsq118 Ftq118 (Int.le_antisymm (by omega) (by omega)) (Int.le_antisymm (by omega) (by omega)) (Int.le_antisymm (by omega) (by omega)) (by omega) (by omega) (yq118_5) (pcq118.elim (fun pcq118 => (Or.inl ⟨⟨by omega, by omega⟩, ⟨by omega, by omega⟩, Int.le_antisymm (by omega) (by omega), Int.le_antisymm (by omega) (by omega)⟩)) (fun pcq118 => (Or.inr ⟨Int.le_antisymm (by omega) (by omega), Int.le_antisymm (by omega) (by omega), Int.le_antisymm (by omega) (by omega), Int.le_antisymm (by omega) (by omega), by omega, by omega⟩))) _ _ (h_al_ok ⟨rfl, trivial⟩ hlw121) hRw121)
      · have Fsq119 := (Gsq119.mono (B := k_pl) rfl).tr F1
        have Ftq119 := (Gtq119.mono (B := k_pm) rfl).tr F2
        have Isq119 := Isq119
        have Itq119 := Itq119
        have Gsq119 := Gsq119
        have Gtq119 := Gtq119
        have esq119_6 : sq119 64 1 = σ1 64 1 := (Gsq119 64 1 rfl).trans rfl
        show h_T g_P (g_Y ns) 56 180 [(0, .ref 63)] [] sq119 _
        refine d_toM (g_inj ns) hlq119 hRq119 (fun lvw122 memw122 hlw122 hRw122 => ?_)
        show h_T g_P (g_Y ns) 154 139 [(0, .ref 98)] [] tq119 _
        refine d_toL (g_inj ns) hlw122 hRw122 (fun lvw123 memw123 hlw123 hRw123 => ?_)
        show h_T g_P (g_Y ns) 56 180 [(0, .ref 63)] [] sq119 _
        exact h_wk [(0, .ref 63)] ⟨rfl, trivial⟩ (kx1 _ _ Isq119 Itq119 Fsq119 Ftq119 (Int.le_antisymm (by omega) (by omega)) (Int.le_antisymm (by omega) (by omega)) (Int.le_antisymm (by omega) (by omega)) (by omega) (by omega) ⟨⟨by omega, by omega⟩, ⟨by omega, by omega⟩, Int.le_antisymm (by omega) (by omega), Int.le_antisymm (by omega) (by omega)⟩ _ _ (h_al_ok ⟨rfl, trivial⟩ hlw123) hRw123)
    · refine d_toM (g_inj ns) hl2 hR2 (fun lvw124 memw124 hlw124 hRw124 => ?_)
      show h_T g_P (g_Y ns) 154 5 [(0, .ref 98), (1, .int y1)] [] σ2 _
      refine h_iload_n (pc' := 6) rfl rfl rfl ?_
      refine h_i2l (pc' := 7) rfl rfl hy1 (fun z125 hz125 => ?_)
      refine h_lconst (pc' := 8) (x := (Int64.ofInt 0)) rfl rfl rfl ?_
      refine h_ldc2 (pc' := 11) (x := (Int64.ofInt 7)) rfl rfl rfl ?_
      refine h_calls (pc' := 14) (M := [(0, .long z125), (2, .long (Int64.ofInt 0)), (4, .long (Int64.ofInt 7))]) rfl rfl rfl rfl rfl rfl ?_
      refine h_lload_n (pc' := 1) rfl rfl rfl ?_
      refine h_lload_n (pc' := 2) rfl rfl rfl ?_
      refine h_lcmp (pc' := 3) rfl rfl hz125 cl_0 (fun z126 hz126 => ?_)
      refine h_zlt (tg := 17) (pc' := 6) rfl rfl rfl rfl (fun c127 => absurd c127 (by omega)) (fun c127 => ?_)
      replace c127 := (h_lcr hz126).2.1 c127
      clear hz126
      refine h_lload_n (pc' := 7) rfl rfl rfl ?_
      refine h_lload (pc' := 9) rfl rfl rfl ?_
      refine h_lcmp (pc' := 10) rfl rfl hz125 cl_7 (fun z128 hz128 => ?_)
      refine h_zgt (tg := 17) (pc' := 13) rfl rfl rfl rfl (fun c129 => absurd c129 (by omega)) (fun c129 => ?_)
      replace c129 := (h_lcr hz128).2.2.1 c129
      clear hz128
      refine h_iconst (pc' := 14) (x := (Int32.ofInt 1)) rfl rfl rfl ?_
      refine h_goto (pc' := 18) rfl rfl ?_
      refine h_zret rfl rfl ci_1 (by omega) (h_Kv ?_)
      clear hz125
      refine h_zne (tg := 23) (pc' := 17) rfl rfl rfl ci_1 (fun c130 => ?_) (fun c130 => absurd c130 (by omega))
      refine d_toL (g_inj ns) hlw124 hRw124 (fun lvw131 memw131 hlw131 hRw131 => ?_)
      show h_T g_P (g_Y ns) 56 116 [(0, .ref 63), (1, .int x1)] [] σ1 _
      refine h_wk [(0, .ref 63), (1, .int x1)] ⟨rfl, rfl, trivial⟩ (ls_gat hI1 hI2 (hTL.fr (F1.mono rfl) (F2.mono rfl)) x1 _ hx1 y1 _ hy1 (Int.le_antisymm (by omega) (by omega)) (Int.le_antisymm (by omega) (by omega)) (Int.le_antisymm (by omega) (by omega)) (Int.le_antisymm (by omega) (by omega)) (Int.le_antisymm (by omega) (by omega)) (Int.le_antisymm (by omega) (by omega)) (Int.le_antisymm (by omega) (by omega)) (Int.le_antisymm (by omega) (by omega)) (Int.le_antisymm (by omega) (by omega)) (by omega) (pr10) (Int.le_antisymm (by omega) (by omega)) (Int.le_antisymm (by omega) (by omega)) ⟨Int.le_antisymm (by omega) (by omega), Int.le_antisymm (by omega) (by omega)⟩ (fun sq132 tq132 Isq132 Itq132 Gsq132 Gtq132   yq132_0 yq132_1 yq132_2 yq132_3 yq132_4 yq132_5 pcq132 lvq132 memq132 hlq132 hRq132 => ?_) (fun sq133 tq133 Isq133 Itq133 Gsq133 Gtq133   yq133_0 yq133_1 yq133_2 yq133_3 yq133_4 pcq133 lvq133 memq133 hlq133 hRq133 => ?_) _ _ (h_al_ok ⟨rfl, rfl, trivial⟩ hlw131) hRw131)
      · have Fsq132 := (Gsq132.mono (B := k_pl) rfl).tr F1
        have Ftq132 := (Gtq132.mono (B := k_pm) rfl).tr F2
        have Isq132 := Isq132
        have Itq132 := Itq132
        have Gsq132 := Gsq132
        have Gtq132 := Gtq132
        have esq132_6 : sq132 64 1 = σ1 64 1 := (Gsq132 64 1 rfl).trans rfl
        show h_T g_P (g_Y ns) 56 180 [(0, .ref 63)] [] sq132 _
        refine d_toM (g_inj ns) hlq132 hRq132 (fun lvw134 memw134 hlw134 hRw134 => ?_)
        show h_T g_P (g_Y ns) 154 165 [(0, .ref 98)] [] tq132 _
        refine d_toL (g_inj ns) hlw134 hRw134 (fun lvw135 memw135 hlw135 hRw135 => ?_)
        show h_T g_P (g_Y ns) 56 180 [(0, .ref 63)] [] sq132 _
        exact h_wk [(0, .ref 63)] ⟨rfl, trivial⟩ (kx0 _ _ Isq132 Itq132 Fsq132 Ftq132 (Int.le_antisymm (by omega) (by omega)) (Int.le_antisymm (by omega) (by omega)) (Int.le_antisymm (by omega) (by omega)) (by omega) (by omega) (yq132_5) (pcq132.elim (fun pcq132 => (Or.inl ⟨⟨by omega, by omega⟩, ⟨by omega, by omega⟩, Int.le_antisymm (by omega) (by omega), Int.le_antisymm (by omega) (by omega)⟩)) (fun pcq132 => (Or.inr ⟨Int.le_antisymm (by omega) (by omega), Int.le_antisymm (by omega) (by omega), Int.le_antisymm (by omega) (by omega), Int.le_antisymm (by omega) (by omega), by omega, by omega⟩))) _ _ (h_al_ok ⟨rfl, trivial⟩ hlw135) hRw135)
      · have Fsq133 := (Gsq133.mono (B := k_pl) rfl).tr F1
        have Ftq133 := (Gtq133.mono (B := k_pm) rfl).tr F2
        have Isq133 := Isq133
        have Itq133 := Itq133
        have Gsq133 := Gsq133
        have Gtq133 := Gtq133
        have esq133_6 : sq133 64 1 = σ1 64 1 := (Gsq133 64 1 rfl).trans rfl
        show h_T g_P (g_Y ns) 56 180 [(0, .ref 63)] [] sq133 _
        refine d_toM (g_inj ns) hlq133 hRq133 (fun lvw136 memw136 hlw136 hRw136 => ?_)
        show h_T g_P (g_Y ns) 154 139 [(0, .ref 98)] [] tq133 _
        refine d_toL (g_inj ns) hlw136 hRw136 (fun lvw137 memw137 hlw137 hRw137 => ?_)
        show h_T g_P (g_Y ns) 56 180 [(0, .ref 63)] [] sq133 _
        exact h_wk [(0, .ref 63)] ⟨rfl, trivial⟩ (kx1 _ _ Isq133 Itq133 Fsq133 Ftq133 (Int.le_antisymm (by omega) (by omega)) (Int.le_antisymm (by omega) (by omega)) (Int.le_antisymm (by omega) (by omega)) (by omega) (by omega) ⟨⟨by omega, by omega⟩, ⟨by omega, by omega⟩, Int.le_antisymm (by omega) (by omega), Int.le_antisymm (by omega) (by omega)⟩ _ _ (h_al_ok ⟨rfl, trivial⟩ hlw137) hRw137)
    · refine d_toM (g_inj ns) hl2 hR2 (fun lvw138 memw138 hlw138 hRw138 => ?_)
      show h_T g_P (g_Y ns) 154 5 [(0, .ref 98), (1, .int y1)] [] σ2 _
      refine h_iload_n (pc' := 6) rfl rfl rfl ?_
      refine h_i2l (pc' := 7) rfl rfl hy1 (fun z139 hz139 => ?_)
      refine h_lconst (pc' := 8) (x := (Int64.ofInt 0)) rfl rfl rfl ?_
      refine h_ldc2 (pc' := 11) (x := (Int64.ofInt 7)) rfl rfl rfl ?_
      refine h_calls (pc' := 14) (M := [(0, .long z139), (2, .long (Int64.ofInt 0)), (4, .long (Int64.ofInt 7))]) rfl rfl rfl rfl rfl rfl ?_
      refine h_lload_n (pc' := 1) rfl rfl rfl ?_
      refine h_lload_n (pc' := 2) rfl rfl rfl ?_
      refine h_lcmp (pc' := 3) rfl rfl hz139 cl_0 (fun z140 hz140 => ?_)
      refine h_zlt (tg := 17) (pc' := 6) rfl rfl rfl rfl (fun c141 => absurd c141 (by omega)) (fun c141 => ?_)
      replace c141 := (h_lcr hz140).2.1 c141
      clear hz140
      refine h_lload_n (pc' := 7) rfl rfl rfl ?_
      refine h_lload (pc' := 9) rfl rfl rfl ?_
      refine h_lcmp (pc' := 10) rfl rfl hz139 cl_7 (fun z142 hz142 => ?_)
      refine h_zgt (tg := 17) (pc' := 13) rfl rfl rfl rfl (fun c143 => absurd c143 (by omega)) (fun c143 => ?_)
      replace c143 := (h_lcr hz142).2.2.1 c143
      clear hz142
      refine h_iconst (pc' := 14) (x := (Int32.ofInt 1)) rfl rfl rfl ?_
      refine h_goto (pc' := 18) rfl rfl ?_
      refine h_zret rfl rfl ci_1 (by omega) (h_Kv ?_)
      clear hz139
      refine h_zne (tg := 23) (pc' := 17) rfl rfl rfl ci_1 (fun c144 => ?_) (fun c144 => absurd c144 (by omega))
      refine d_toL (g_inj ns) hlw138 hRw138 (fun lvw145 memw145 hlw145 hRw145 => ?_)
      show h_T g_P (g_Y ns) 56 123 [(0, .ref 63), (1, .int x1)] [] σ1 _
      refine h_wk [(0, .ref 63), (1, .int x1)] ⟨rfl, rfl, trivial⟩ (ls_pln hI1 hI2 (hTL.fr (F1.mono rfl) (F2.mono rfl)) x1 _ hx1 y1 _ hy1 (Int.le_antisymm (by omega) (by omega)) (Int.le_antisymm (by omega) (by omega)) (Int.le_antisymm (by omega) (by omega)) (Int.le_antisymm (by omega) (by omega)) (Int.le_antisymm (by omega) (by omega)) (Int.le_antisymm (by omega) (by omega)) (Int.le_antisymm (by omega) (by omega)) (Int.le_antisymm (by omega) (by omega)) (Int.le_antisymm (by omega) (by omega)) (by omega) (pr10) (Int.le_antisymm (by omega) (by omega)) (Int.le_antisymm (by omega) (by omega)) ⟨Int.le_antisymm (by omega) (by omega), Int.le_antisymm (by omega) (by omega)⟩ (fun sq146 tq146 Isq146 Itq146 Gsq146 Gtq146   yq146_0 yq146_1 yq146_2 yq146_3 yq146_4 yq146_5 pcq146 lvq146 memq146 hlq146 hRq146 => ?_) (fun sq147 tq147 Isq147 Itq147 Gsq147 Gtq147   yq147_0 yq147_1 yq147_2 yq147_3 yq147_4 pcq147 lvq147 memq147 hlq147 hRq147 => ?_) _ _ (h_al_ok ⟨rfl, rfl, trivial⟩ hlw145) hRw145)
      · have Fsq146 := (Gsq146.mono (B := k_pl) rfl).tr F1
        have Ftq146 := (Gtq146.mono (B := k_pm) rfl).tr F2
        have Isq146 := Isq146
        have Itq146 := Itq146
        have Gsq146 := Gsq146
        have Gtq146 := Gtq146
        have esq146_6 : sq146 64 1 = σ1 64 1 := (Gsq146 64 1 rfl).trans rfl
        show h_T g_P (g_Y ns) 56 180 [(0, .ref 63)] [] sq146 _
        refine d_toM (g_inj ns) hlq146 hRq146 (fun lvw148 memw148 hlw148 hRw148 => ?_)
        show h_T g_P (g_Y ns) 154 165 [(0, .ref 98)] [] tq146 _
        refine d_toL (g_inj ns) hlw148 hRw148 (fun lvw149 memw149 hlw149 hRw149 => ?_)
        show h_T g_P (g_Y ns) 56 180 [(0, .ref 63)] [] sq146 _
        exact h_wk [(0, .ref 63)] ⟨rfl, trivial⟩ (kx0 _ _ Isq146 Itq146 Fsq146 Ftq146 (Int.le_antisymm (by omega) (by omega)) (Int.le_antisymm (by omega) (by omega)) (Int.le_antisymm (by omega) (by omega)) (by omega) (by omega) (yq146_5) (pcq146.elim (fun pcq146 => (Or.inl ⟨⟨by omega, by omega⟩, ⟨by omega, by omega⟩, Int.le_antisymm (by omega) (by omega), Int.le_antisymm (by omega) (by omega)⟩)) (fun pcq146 => (Or.inr ⟨Int.le_antisymm (by omega) (by omega), Int.le_antisymm (by omega) (by omega), Int.le_antisymm (by omega) (by omega), Int.le_antisymm (by omega) (by omega), by omega, by omega⟩))) _ _ (h_al_ok ⟨rfl, trivial⟩ hlw149) hRw149)
      · have Fsq147 := (Gsq147.mono (B := k_pl) rfl).tr F1
        have Ftq147 := (Gtq147.mono (B := k_pm) rfl).tr F2
        have Isq147 := Isq147
        have Itq147 := Itq147
        have Gsq147 := Gsq147
        have Gtq147 := Gtq147
        have esq147_6 : sq147 64 1 = σ1 64 1 := (Gsq147 64 1 rfl).trans rfl
        show h_T g_P (g_Y ns) 56 180 [(0, .ref 63)] [] sq147 _
        refine d_toM (g_inj ns) hlq147 hRq147 (fun lvw150 memw150 hlw150 hRw150 => ?_)
        show h_T g_P (g_Y ns) 154 139 [(0, .ref 98)] [] tq147 _
        refine d_toL (g_inj ns) hlw150 hRw150 (fun lvw151 memw151 hlw151 hRw151 => ?_)
        show h_T g_P (g_Y ns) 56 180 [(0, .ref 63)] [] sq147 _
        exact h_wk [(0, .ref 63)] ⟨rfl, trivial⟩ (kx1 _ _ Isq147 Itq147 Fsq147 Ftq147 (Int.le_antisymm (by omega) (by omega)) (Int.le_antisymm (by omega) (by omega)) (Int.le_antisymm (by omega) (by omega)) (by omega) (by omega) ⟨⟨by omega, by omega⟩, ⟨by omega, by omega⟩, Int.le_antisymm (by omega) (by omega), Int.le_antisymm (by omega) (by omega)⟩ _ _ (h_al_ok ⟨rfl, trivial⟩ hlw151) hRw151)
