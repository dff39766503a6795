set_option maxHeartbeats 100000000 in
theorem ls_fin {ns : Nat} {σ1 σ2 : h_S} (hI1 : h_I σ1) (hI2 : h_I σ2) (hTL : d_tape σ1 σ2) (y1 : Int32) (c1 : Int) (hy1 : y1.toInt = c1) (pr0 : σ1 64 2 = σ2 98 15) (pr1 : σ1 64 4 = σ2 98 16) (pr2 : σ1 63 2 = σ2 98 13) (pr3 : σ1 64 2 ≤ σ1 64 1) (pr4 : d_ok σ1 σ2) (pc0 : ((1 ≤ σ1 63 2 ∧ σ1 63 2 ≤ 6) ∧ (1 ≤ σ2 98 13 ∧ σ2 98 13 ≤ 6) ∧ (σ1 63 2 = σ2 98 13) ∧ (σ1 63 3 = σ2 98 14)) ∨ ((σ1 63 2 = 0) ∧ (σ1 64 3 = 0) ∧ (σ2 98 13 = 0) ∧ (σ2 98 17 = 0) ∧ (σ1 64 4 = σ1 64 1))) {cs1 cs2 : List d_Fr} {Q : d_Q} (kx0 : ∀ (s t : h_S), h_I s → h_I t → h_F (k_in k_pl) s σ1 → h_F (k_in k_pm) t σ2 → (s 64 2 = t 98 15) → (s 64 4 = t 98 16) → (s 63 2 = t 98 13) → (s 64 2 ≤ s 64 1) → (d_ok s t) → (s 63 2 = 0 → g_wh s) → (((1 ≤ s 63 2 ∧ s 63 2 ≤ 6) ∧ (1 ≤ t 98 13 ∧ t 98 13 ≤ 6) ∧ (s 63 2 = t 98 13) ∧ (s 63 3 = t 98 14)) ∨ ((s 63 2 = 0) ∧ (t 98 13 = 0))) → ∀ lv2 mem2, h_loc [(0, .ref 98), (1, .int y1)] lv2 → h_R (g_Y ns) t mem2 → h_T g_P (g_Y ns) 52 113 [(0, .ref 63)] [] s (d_cs g_P (g_Y ns) cs1 (d_L g_P (g_Y ns) (155, 121, lv2, []) cs2 mem2 Q))) : ∀ lv2 mem2, h_loc [(0, .ref 98), (1, .int y1)] lv2 → h_R (g_Y ns) σ2 mem2 → h_T g_P (g_Y ns) 52 83 [(0, .ref 63)] [] σ1 (d_cs g_P (g_Y ns) cs1 (d_L g_P (g_Y ns) (155, 86, lv2, []) cs2 mem2 Q)) := by
  intro lv2 mem2 hl2 hR2
  have hT := hTL.1
  have hL := hTL.2
  have F1 : h_F (k_in k_pl) σ1 σ1 := h_F.rf
  have F2 : h_F (k_in k_pm) σ2 σ2 := h_F.rf
  have ge0 := tf_64_1 hI1
  rcases pc0 with pc0 | pc0
  · show h_T g_P (g_Y ns) 52 83 [(0, .ref 63)] [] σ1 _
    refine h_aload_n (pc' := 84) rfl rfl rfl ?_
    refine h_getI (pc' := 87) (v := σ1 63 2) rfl rfl rfl rfl rfl rfl (fun z21 hz21 => ?_)
    have tz21 := tf_63_2 hI1
    refine h_zne (tg := 113) (pc' := 90) rfl rfl rfl hz21 (fun c22 => ?_) (fun c22 => absurd c22 (by omega))
    clear hz21
    refine d_toM (g_inj ns) hl2 hR2 (fun lvw23 memw23 hlw23 hRw23 => ?_)
    show h_T g_P (g_Y ns) 155 86 [(0, .ref 98), (1, .int y1)] [] σ2 _
    refine h_aload_n (pc' := 87) rfl rfl rfl ?_
    refine h_getI (pc' := 90) (v := σ2 98 13) rfl rfl rfl rfl rfl rfl (fun z24 hz24 => ?_)
    have tz24 := tf_98_13 hI2
    refine h_zne (tg := 121) (pc' := 93) rfl rfl rfl hz24 (fun c25 => ?_) (fun c25 => absurd c25 (by omega))
    clear hz24
    refine d_toL (g_inj ns) hlw23 hRw23 (fun lvw26 memw26 hlw26 hRw26 => ?_)
    show h_T g_P (g_Y ns) 52 113 [(0, .ref 63)] [] σ1 _
    exact h_wk [(0, .ref 63)] ⟨rfl, trivial⟩ (kx0 _ _ hI1 hI2 F1 F2 (Int.le_antisymm (by omega) (by omega)) (Int.le_antisymm (by omega) (by omega)) (Int.le_antisymm (by omega) (by omega)) (by omega) (fun h => absurd h (by omega)) (fun h => absurd h (by omega)) (Or.inl ⟨⟨by omega, by omega⟩, ⟨by omega, by omega⟩, Int.le_antisymm (by omega) (by omega), Int.le_antisymm (by omega) (by omega)⟩) _ _ (h_al_ok ⟨rfl, rfl, trivial⟩ hlw26) hRw26)
  · show h_T g_P (g_Y ns) 52 83 [(0, .ref 63)] [] σ1 _
    refine h_aload_n (pc' := 84) rfl rfl rfl ?_
    refine h_getI (pc' := 87) (v := σ1 63 2) rfl rfl rfl rfl rfl rfl (fun z27 hz27 => ?_)
    have tz27 := tf_63_2 hI1
    refine h_zne (tg := 113) (pc' := 90) rfl rfl rfl hz27 (fun c28 => absurd (Int.le_antisymm (by omega) (by omega)) c28) (fun c28 => ?_)
    clear hz27
    refine h_aload_n (pc' := 91) rfl rfl rfl ?_
    refine h_getR (pc' := 94) rfl rfl rfl rfl rfl ?_
    refine h_call (sp := false) (pc' := 97) (M := [(0, .ref 66)]) rfl rfl rfl rfl rfl rfl rfl rfl ?_
    refine n_isWhole _ hI1  (fun r29 br29 hr29 tr29 ps30_0 => h_Kv ?_)
    have gw31 := d_iw (pr4 (by omega)) hI1 ps30_0
    refine h_zne (tg := 113) (pc' := 100) rfl rfl rfl hr29 (fun c32 => ?_) (fun c32 => ?_)
    · clear hr29
      refine d_toM (g_inj ns) hl2 hR2 (fun lvw33 memw33 hlw33 hRw33 => ?_)
      show h_T g_P (g_Y ns) 155 86 [(0, .ref 98), (1, .int y1)] [] σ2 _
      refine h_aload_n (pc' := 87) rfl rfl rfl ?_
      refine h_getI (pc' := 90) (v := σ2 98 13) rfl rfl rfl rfl rfl rfl (fun z34 hz34 => ?_)
      have tz34 := tf_98_13 hI2
      refine h_zne (tg := 121) (pc' := 93) rfl rfl rfl hz34 (fun c35 => absurd (Int.le_antisymm (by omega) (by omega)) c35) (fun c35 => ?_)
      clear hz34
      refine h_aload_n (pc' := 94) rfl rfl rfl ?_
      refine h_getI (pc' := 97) (v := σ2 98 8) rfl rfl rfl rfl rfl rfl (fun z36 hz36 => ?_)
      have tz36 := tf_98_8 hI2
      refine h_aload_n (pc' := 98) rfl rfl rfl ?_
      refine h_getI (pc' := 101) (v := σ2 98 5) rfl rfl rfl rfl rfl rfl (fun z37 hz37 => ?_)
      have tz37 := tf_98_5 hI2
      refine h_cge (tg := 115) (pc' := 104) rfl rfl rfl hz36 hz37 (fun c38 => ?_) (fun c38 => ?_)
      · clear hz36 hz37
        refine h_aload_n (pc' := 116) rfl rfl rfl ?_
        refine h_bipush (pc' := 118) (x := (Int32.ofInt 6)) rfl rfl cb_6 ?_
        refine h_call (sp := false) (pc' := 121) (M := [(0, .ref 98), (1, .int (Int32.ofInt 6))]) rfl rfl rfl rfl rfl rfl rfl rfl ?_
        refine h_aload_n (pc' := 1) rfl rfl rfl ?_
        refine h_getI (pc' := 4) (v := σ2 98 13) rfl rfl rfl rfl rfl rfl (fun z39 hz39 => ?_)
        refine h_zne (tg := 20) (pc' := 7) rfl rfl rfl hz39 (fun c40 => absurd (Int.le_antisymm (by omega) (by omega)) c40) (fun c40 => ?_)
        clear hz39
        refine h_aload_n (pc' := 8) rfl rfl rfl ?_
        refine h_iload_n (pc' := 9) rfl rfl rfl ?_
        refine h_put (pc' := 12) rfl rfl rfl rfl rfl rfl ci_6 rfl (h_fgt (E := fun s => s 98 15 = σ2 98 15 ∧ s 98 16 = σ2 98 16 ∧ s 98 17 = σ2 98 17 ∧ s 98 18 = σ2 98 18 ∧ s 98 13 = 6 ∧ s 98 14 = σ2 98 14 ∧ s 98 5 = σ2 98 5 ∧ s 98 6 = σ2 98 6 ∧ s 98 7 = σ2 98 7 ∧ s 98 8 = σ2 98 8 ∧ s 98 9 = σ2 98 9 ∧ s 101 18 = σ2 101 18 ∧ s 101 25 = σ2 101 25 ∧ s 101 43 = σ2 101 43 ∧ s = h_up σ2 98 13 6) _ (if_98_13 hI2 (by omega)) (F2.up rfl) ⟨rfl, rfl, rfl, rfl, rfl, rfl, rfl, rfl, rfl, rfl, rfl, rfl, rfl, rfl, rfl⟩ (fun s41 Is41 Fs41 (es41 : s41 98 15 = σ2 98 15 ∧ s41 98 16 = σ2 98 16 ∧ s41 98 17 = σ2 98 17 ∧ s41 98 18 = σ2 98 18 ∧ s41 98 13 = 6 ∧ s41 98 14 = σ2 98 14 ∧ s41 98 5 = σ2 98 5 ∧ s41 98 6 = σ2 98 6 ∧ s41 98 7 = σ2 98 7 ∧ s41 98 8 = σ2 98 8 ∧ s41 98 9 = σ2 98 9 ∧ s41 101 18 = σ2 101 18 ∧ s41 101 25 = σ2 101 25 ∧ s41 101 43 = σ2 101 43 ∧ s41 = h_up σ2 98 13 6) => ?_))
        have us41 := es41.2.2.2.2.2.2.2.2.2.2.2.2.2.2
        refine h_aload_n (pc' := 13) rfl rfl rfl ?_
        refine h_aload_n (pc' := 14) rfl rfl rfl ?_
        refine h_getI (pc' := 17) (v := σ2 98 16) rfl rfl rfl rfl rfl es41.2.1 (fun z42 hz42 => ?_)
        have tz42 := tf_98_16 hI2
        refine h_put (pc' := 20) rfl rfl rfl rfl rfl rfl hz42 rfl (h_fgt (E := fun s => s 98 15 = σ2 98 15 ∧ s 98 16 = σ2 98 16 ∧ s 98 17 = σ2 98 17 ∧ s 98 18 = σ2 98 18 ∧ s 98 13 = 6 ∧ s 98 14 = (σ2 98 16) ∧ s 98 5 = σ2 98 5 ∧ s 98 6 = σ2 98 6 ∧ s 98 7 = σ2 98 7 ∧ s 98 8 = σ2 98 8 ∧ s 98 9 = σ2 98 9 ∧ s 101 18 = σ2 101 18 ∧ s 101 25 = σ2 101 25 ∧ s 101 43 = σ2 101 43 ∧ s = h_up s41 98 14 (σ2 98 16)) _ (if_98_14 Is41 (h_rgv hz42)) (Fs41.up rfl) ⟨es41.1, es41.2.1, es41.2.2.1, es41.2.2.2.1, es41.2.2.2.2.1, rfl, es41.2.2.2.2.2.2.1, es41.2.2.2.2.2.2.2.1, es41.2.2.2.2.2.2.2.2.1, es41.2.2.2.2.2.2.2.2.2.1, es41.2.2.2.2.2.2.2.2.2.2.1, es41.2.2.2.2.2.2.2.2.2.2.2.1, es41.2.2.2.2.2.2.2.2.2.2.2.2.1, es41.2.2.2.2.2.2.2.2.2.2.2.2.2.1, rfl⟩ (fun s43 Is43 Fs43 (es43 : s43 98 15 = σ2 98 15 ∧ s43 98 16 = σ2 98 16 ∧ s43 98 17 = σ2 98 17 ∧ s43 98 18 = σ2 98 18 ∧ s43 98 13 = 6 ∧ s43 98 14 = (σ2 98 16) ∧ s43 98 5 = σ2 98 5 ∧ s43 98 6 = σ2 98 6 ∧ s43 98 7 = σ2 98 7 ∧ s43 98 8 = σ2 98 8 ∧ s43 98 9 = σ2 98 9 ∧ s43 101 18 = σ2 101 18 ∧ s43 101 25 = σ2 101 25 ∧ s43 101 43 = σ2 101 43 ∧ s43 = h_up s41 98 14 (σ2 98 16)) => ?_))
        clear es41
        have us43 := es43.2.2.2.2.2.2.2.2.2.2.2.2.2.2
        refine h_vret rfl rfl (h_Kn ?_)
        exfalso
        omega
      · clear hz36 hz37
        refine h_aload_n (pc' := 105) rfl rfl rfl ?_
        refine h_getI (pc' := 108) (v := σ2 98 9) rfl rfl rfl rfl rfl rfl (fun z45 hz45 => ?_)
        have tz45 := tf_98_9 hI2
        refine h_aload_n (pc' := 109) rfl rfl rfl ?_
        refine h_getI (pc' := 112) (v := σ2 98 6) rfl rfl rfl rfl rfl rfl (fun z46 hz46 => ?_)
        have tz46 := tf_98_6 hI2
        refine h_clt (tg := 121) (pc' := 115) rfl rfl rfl hz45 hz46 (fun c47 => ?_) (fun c47 => ?_)
        · clear hz45 hz46
          refine d_toL (g_inj ns) hlw33 hRw33 (fun lvw48 memw48 hlw48 hRw48 => ?_)
          show h_T g_P (g_Y ns) 52 113 [(0, .ref 63)] [] σ1 _
          exact h_wk [(0, .ref 63)] ⟨rfl, trivial⟩ (kx0 _ _ hI1 hI2 F1 F2 (Int.le_antisymm (by omega) (by omega)) (Int.le_antisymm (by omega) (by omega)) (Int.le_antisymm (by omega) (by omega)) (by omega) (pr4) (fun _ => gn_1 ps30_0 (by omega)) (Or.inr ⟨Int.le_antisymm (by omega) (by omega), Int.le_antisymm (by omega) (by omega)⟩) _ _ (h_al_ok ⟨rfl, rfl, trivial⟩ hlw48) hRw48)
        · clear hz45 hz46
          refine h_aload_n (pc' := 116) rfl rfl rfl ?_
          refine h_bipush (pc' := 118) (x := (Int32.ofInt 6)) rfl rfl cb_6 ?_
          refine h_call (sp := false) (pc' := 121) (M := [(0, .ref 98), (1, .int (Int32.ofInt 6))]) rfl rfl rfl rfl rfl rfl rfl rfl ?_
          refine h_aload_n (pc' := 1) rfl rfl rfl ?_
          refine h_getI (pc' := 4) (v := σ2 98 13) rfl rfl rfl rfl rfl rfl (fun z49 hz49 => ?_)
          refine h_zne (tg := 20) (pc' := 7) rfl rfl rfl hz49 (fun c50 => absurd (Int.le_antisymm (by omega) (by omega)) c50) (fun c50 => ?_)
          clear hz49
          refine h_aload_n (pc' := 8) rfl rfl rfl ?_
          refine h_iload_n (pc' := 9) rfl rfl rfl ?_
          refine h_put (pc' := 12) rfl rfl rfl rfl rfl rfl ci_6 rfl (h_fgt (E := fun s => s 98 15 = σ2 98 15 ∧ s 98 16 = σ2 98 16 ∧ s 98 17 = σ2 98 17 ∧ s 98 18 = σ2 98 18 ∧ s 98 13 = 6 ∧ s 98 14 = σ2 98 14 ∧ s 98 5 = σ2 98 5 ∧ s 98 6 = σ2 98 6 ∧ s 98 7 = σ2 98 7 ∧ s 98 8 = σ2 98 8 ∧ s 98 9 = σ2 98 9 ∧ s 101 18 = σ2 101 18 ∧ s 101 25 = σ2 101 25 ∧ s 101 43 = σ2 101 43 ∧ s = h_up σ2 98 13 6) _ (if_98_13 hI2 (by omega)) (F2.up rfl) ⟨rfl, rfl, rfl, rfl, rfl, rfl, rfl, rfl, rfl, rfl, rfl, rfl, rfl, rfl, rfl⟩ (fun s51 Is51 Fs51 (es51 : s51 98 15 = σ2 98 15 ∧ s51 98 16 = σ2 98 16 ∧ s51 98 17 = σ2 98 17 ∧ s51 98 18 = σ2 98 18 ∧ s51 98 13 = 6 ∧ s51 98 14 = σ2 98 14 ∧ s51 98 5 = σ2 98 5 ∧ s51 98 6 = σ2 98 6 ∧ s51 98 7 = σ2 98 7 ∧ s51 98 8 = σ2 98 8 ∧ s51 98 9 = σ2 98 9 ∧ s51 101 18 = σ2 101 18 ∧ s51 101 25 = σ2 101 25 ∧ s51 101 43 = σ2 101 43 ∧ s51 = h_up σ2 98 13 6) => ?_))
          have us51 := es51.2.2.2.2.2.2.2.2.2.2.2.2.2.2
          refine h_aload_n (pc' := 13) rfl rfl rfl ?_
          refine h_aload_n (pc' := 14) rfl rfl rfl ?_
          refine h_getI (pc' := 17) (v := σ2 98 16) rfl rfl rfl rfl rfl es51.2.1 (fun z52 hz52 => ?_)
          have tz52 := tf_98_16 hI2
          refine h_put (pc' := 20) rfl rfl rfl rfl rfl rfl hz52 rfl (h_fgt (E := fun s => s 98 15 = σ2 98 15 ∧ s 98 16 = σ2 98 16 ∧ s 98 17 = σ2 98 17 ∧ s 98 18 = σ2 98 18 ∧ s 98 13 = 6 ∧ s 98 14 = (σ2 98 16) ∧ s 98 5 = σ2 98 5 ∧ s 98 6 = σ2 98 6 ∧ s 98 7 = σ2 98 7 ∧ s 98 8 = σ2 98 8 ∧ s 98 9 = σ2 98 9 ∧ s 101 18 = σ2 101 18 ∧ s 101 25 = σ2 101 25 ∧ s 101 43 = σ2 101 43 ∧ s = h_up s51 98 14 (σ2 98 16)) _ (if_98_14 Is51 (h_rgv hz52)) (Fs51.up rfl) ⟨es51.1, es51.2.1, es51.2.2.1, es51.2.2.2.1, es51.2.2.2.2.1, rfl, es51.2.2.2.2.2.2.1, es51.2.2.2.2.2.2.2.1, es51.2.2.2.2.2.2.2.2.1, es51.2.2.2.2.2.2.2.2.2.1, es51.2.2.2.2.2.2.2.2.2.2.1, es51.2.2.2.2.2.2.2.2.2.2.2.1, es51.2.2.2.2.2.2.2.2.2.2.2.2.1, es51.2.2.2.2.2.2.2.2.2.2.2.2.2.1, rfl⟩ (fun s53 Is53 Fs53 (es53 : s53 98 15 = σ2 98 15 ∧ s53 98 16 = σ2 98 16 ∧ s53 98 17 = σ2 98 17 ∧ s53 98 18 = σ2 98 18 ∧ s53 98 13 = 6 ∧ s53 98 14 = (σ2 98 16) ∧ s53 98 5 = σ2 98 5 ∧ s53 98 6 = σ2 98 6 ∧ s53 98 7 = σ2 98 7 ∧ s53 98 8 = σ2 98 8 ∧ s53 98 9 = σ2 98 9 ∧ s53 101 18 = σ2 101 18 ∧ s53 101 25 = σ2 101 25 ∧ s53 101 43 = σ2 101 43 ∧ s53 = h_up s51 98 14 (σ2 98 16)) => ?_))
          clear es51
          have us53 := es53.2.2.2.2.2.2.2.2.2.2.2.2.2.2
          refine h_vret rfl rfl (h_Kn ?_)
          exfalso
          omega
    · clear hr29
      refine h_aload_n (pc' := 101) rfl rfl rfl ?_
      refine h_bipush (pc' := 103) (x := (Int32.ofInt 6)) rfl rfl cb_6 ?_
      refine h_aload_n (pc' := 104) rfl rfl rfl ?_
      refine h_getR (pc' := 107) rfl rfl rfl rfl rfl ?_
      refine h_getI (pc' := 110) (v := σ1 64 1) rfl rfl rfl rfl rfl rfl (fun z55 hz55 => ?_)
      have tz55 := tf_64_1 hI1
      refine h_call (sp := false) (pc' := 113) (M := [(0, .ref 63), (1, .int (Int32.ofInt 6)), (2, .int z55)]) rfl rfl rfl rfl rfl rfl rfl rfl ?_
      refine h_aload_n (pc' := 1) rfl rfl rfl ?_
      refine h_getI (pc' := 4) (v := σ1 63 2) rfl rfl rfl rfl rfl rfl (fun z56 hz56 => ?_)
      refine h_zne (tg := 17) (pc' := 7) rfl rfl rfl hz56 (fun c57 => absurd (Int.le_antisymm (by omega) (by omega)) c57) (fun c57 => ?_)
      clear hz56
      refine h_aload_n (pc' := 8) rfl rfl rfl ?_
      refine h_iload_n (pc' := 9) rfl rfl rfl ?_
      refine h_put (pc' := 12) rfl rfl rfl rfl rfl rfl ci_6 rfl (h_fgt (E := fun s => s 64 2 = σ1 64 2 ∧ s 64 4 = σ1 64 4 ∧ s 64 3 = σ1 64 3 ∧ s 64 5 = σ1 64 5 ∧ s 63 2 = 6 ∧ s 63 3 = σ1 63 3 ∧ s 64 1 = σ1 64 1 ∧ s 66 8 = σ1 66 8 ∧ s 66 9 = σ1 66 9 ∧ s 66 10 = σ1 66 10 ∧ s 69 2 = σ1 69 2 ∧ s 72 2 = σ1 72 2 ∧ s 63 5 = σ1 63 5 ∧ s 63 4 = σ1 63 4 ∧ s = h_up σ1 63 2 6) _ (if_63_2 hI1 (by omega)) (F1.up rfl) ⟨rfl, rfl, rfl, rfl, rfl, rfl, rfl, rfl, rfl, rfl, rfl, rfl, rfl, rfl, rfl⟩ (fun s58 Is58 Fs58 (es58 : s58 64 2 = σ1 64 2 ∧ s58 64 4 = σ1 64 4 ∧ s58 64 3 = σ1 64 3 ∧ s58 64 5 = σ1 64 5 ∧ s58 63 2 = 6 ∧ s58 63 3 = σ1 63 3 ∧ s58 64 1 = σ1 64 1 ∧ s58 66 8 = σ1 66 8 ∧ s58 66 9 = σ1 66 9 ∧ s58 66 10 = σ1 66 10 ∧ s58 69 2 = σ1 69 2 ∧ s58 72 2 = σ1 72 2 ∧ s58 63 5 = σ1 63 5 ∧ s58 63 4 = σ1 63 4 ∧ s58 = h_up σ1 63 2 6) => ?_))
      have us58 := es58.2.2.2.2.2.2.2.2.2.2.2.2.2.2
      refine h_aload_n (pc' := 13) rfl rfl rfl ?_
      refine h_iload_n (pc' := 14) rfl rfl rfl ?_
      refine h_put (pc' := 17) rfl rfl rfl rfl rfl rfl hz55 rfl (h_fgt (E := fun s => s 64 2 = σ1 64 2 ∧ s 64 4 = σ1 64 4 ∧ s 64 3 = σ1 64 3 ∧ s 64 5 = σ1 64 5 ∧ s 63 2 = 6 ∧ s 63 3 = (σ1 64 1) ∧ s 64 1 = σ1 64 1 ∧ s 66 8 = σ1 66 8 ∧ s 66 9 = σ1 66 9 ∧ s 66 10 = σ1 66 10 ∧ s 69 2 = σ1 69 2 ∧ s 72 2 = σ1 72 2 ∧ s 63 5 = σ1 63 5 ∧ s 63 4 = σ1 63 4 ∧ s = h_up s58 63 3 (σ1 64 1)) _ (if_63_3 Is58 (h_rgv hz55)) (Fs58.up rfl) ⟨es58.1, es58.2.1, es58.2.2.1, es58.2.2.2.1, es58.2.2.2.2.1, rfl, es58.2.2.2.2.2.2.1, es58.2.2.2.2.2.2.2.1, es58.2.2.2.2.2.2.2.2.1, es58.2.2.2.2.2.2.2.2.2.1, es58.2.2.2.2.2.2.2.2.2.2.1, es58.2.2.2.2.2.2.2.2.2.2.2.1, es58.2.2.2.2.2.2.2.2.2.2.2.2.1, es58.2.2.2.2.2.2.2.2.2.2.2.2.2.1, rfl⟩ (fun s59 Is59 Fs59 (es59 : s59 64 2 = σ1 64 2 ∧ s59 64 4 = σ1 64 4 ∧ s59 64 3 = σ1 64 3 ∧ s59 64 5 = σ1 64 5 ∧ s59 63 2 = 6 ∧ s59 63 3 = (σ1 64 1) ∧ s59 64 1 = σ1 64 1 ∧ s59 66 8 = σ1 66 8 ∧ s59 66 9 = σ1 66 9 ∧ s59 66 10 = σ1 66 10 ∧ s59 69 2 = σ1 69 2 ∧ s59 72 2 = σ1 72 2 ∧ s59 63 5 = σ1 63 5 ∧ s59 63 4 = σ1 63 4 ∧ s59 = h_up s58 63 3 (σ1 64 1)) => ?_))
      clear es58
      have us59 := es59.2.2.2.2.2.2.2.2.2.2.2.2.2.2
      refine h_vret rfl rfl (h_Kn ?_)
      refine d_toM (g_inj ns) hl2 hR2 (fun lvw60 memw60 hlw60 hRw60 => ?_)
      show h_T g_P (g_Y ns) 155 86 [(0, .ref 98), (1, .int y1)] [] σ2 _
      refine h_aload_n (pc' := 87) rfl rfl rfl ?_
      refine h_getI (pc' := 90) (v := σ2 98 13) rfl rfl rfl rfl rfl rfl (fun z61 hz61 => ?_)
      have tz61 := tf_98_13 hI2
      refine h_zne (tg := 121) (pc' := 93) rfl rfl rfl hz61 (fun c62 => absurd (Int.le_antisymm (by omega) (by omega)) c62) (fun c62 => ?_)
      clear hz61
      refine h_aload_n (pc' := 94) rfl rfl rfl ?_
      refine h_getI (pc' := 97) (v := σ2 98 8) rfl rfl rfl rfl rfl rfl (fun z63 hz63 => ?_)
      have tz63 := tf_98_8 hI2
      refine h_aload_n (pc' := 98) rfl rfl rfl ?_
      refine h_getI (pc' := 101) (v := σ2 98 5) rfl rfl rfl rfl rfl rfl (fun z64 hz64 => ?_)
      have tz64 := tf_98_5 hI2
      refine h_cge (tg := 115) (pc' := 104) rfl rfl rfl hz63 hz64 (fun c65 => ?_) (fun c65 => ?_)
      · clear hz63 hz64
        refine h_aload_n (pc' := 116) rfl rfl rfl ?_
        refine h_bipush (pc' := 118) (x := (Int32.ofInt 6)) rfl rfl cb_6 ?_
        refine h_call (sp := false) (pc' := 121) (M := [(0, .ref 98), (1, .int (Int32.ofInt 6))]) rfl rfl rfl rfl rfl rfl rfl rfl ?_
        refine h_aload_n (pc' := 1) rfl rfl rfl ?_
        refine h_getI (pc' := 4) (v := σ2 98 13) rfl rfl rfl rfl rfl rfl (fun z66 hz66 => ?_)
        refine h_zne (tg := 20) (pc' := 7) rfl rfl rfl hz66 (fun c67 => absurd (Int.le_antisymm (by omega) (by omega)) c67) (fun c67 => ?_)
        clear hz66
        refine h_aload_n (pc' := 8) rfl rfl rfl ?_
        refine h_iload_n (pc' := 9) rfl rfl rfl ?_
        refine h_put (pc' := 12) rfl rfl rfl rfl rfl rfl ci_6 rfl (h_fgt (E := fun s => s 98 15 = σ2 98 15 ∧ s 98 16 = σ2 98 16 ∧ s 98 17 = σ2 98 17 ∧ s 98 18 = σ2 98 18 ∧ s 98 13 = 6 ∧ s 98 14 = σ2 98 14 ∧ s 98 5 = σ2 98 5 ∧ s 98 6 = σ2 98 6 ∧ s 98 7 = σ2 98 7 ∧ s 98 8 = σ2 98 8 ∧ s 98 9 = σ2 98 9 ∧ s 101 18 = σ2 101 18 ∧ s 101 25 = σ2 101 25 ∧ s 101 43 = σ2 101 43 ∧ s = h_up σ2 98 13 6) _ (if_98_13 hI2 (by omega)) (F2.up rfl) ⟨rfl, rfl, rfl, rfl, rfl, rfl, rfl, rfl, rfl, rfl, rfl, rfl, rfl, rfl, rfl⟩ (fun s68 Is68 Fs68 (es68 : s68 98 15 = σ2 98 15 ∧ s68 98 16 = σ2 98 16 ∧ s68 98 17 = σ2 98 17 ∧ s68 98 18 = σ2 98 18 ∧ s68 98 13 = 6 ∧ s68 98 14 = σ2 98 14 ∧ s68 98 5 = σ2 98 5 ∧ s68 98 6 = σ2 98 6 ∧ s68 98 7 = σ2 98 7 ∧ s68 98 8 = σ2 98 8 ∧ s68 98 9 = σ2 98 9 ∧ s68 101 18 = σ2 101 18 ∧ s68 101 25 = σ2 101 25 ∧ s68 101 43 = σ2 101 43 ∧ s68 = h_up σ2 98 13 6) => ?_))
        have us68 := es68.2.2.2.2.2.2.2.2.2.2.2.2.2.2
        refine h_aload_n (pc' := 13) rfl rfl rfl ?_
        refine h_aload_n (pc' := 14) rfl rfl rfl ?_
        refine h_getI (pc' := 17) (v := σ2 98 16) rfl rfl rfl rfl rfl es68.2.1 (fun z69 hz69 => ?_)
        have tz69 := tf_98_16 hI2
        refine h_put (pc' := 20) rfl rfl rfl rfl rfl rfl hz69 rfl (h_fgt (E := fun s => s 98 15 = σ2 98 15 ∧ s 98 16 = σ2 98 16 ∧ s 98 17 = σ2 98 17 ∧ s 98 18 = σ2 98 18 ∧ s 98 13 = 6 ∧ s 98 14 = (σ2 98 16) ∧ s 98 5 = σ2 98 5 ∧ s 98 6 = σ2 98 6 ∧ s 98 7 = σ2 98 7 ∧ s 98 8 = σ2 98 8 ∧ s 98 9 = σ2 98 9 ∧ s 101 18 = σ2 101 18 ∧ s 101 25 = σ2 101 25 ∧ s 101 43 = σ2 101 43 ∧ s = h_up s68 98 14 (σ2 98 16)) _ (if_98_14 Is68 (h_rgv hz69)) (Fs68.up rfl) ⟨es68.1, es68.2.1, es68.2.2.1, es68.2.2.2.1, es68.2.2.2.2.1, rfl, es68.2.2.2.2.2.2.1, es68.2.2.2.2.2.2.2.1, es68.2.2.2.2.2.2.2.2.1, es68.2.2.2.2.2.2.2.2.2.1, es68.2.2.2.2.2.2.2.2.2.2.1, es68.2.2.2.2.2.2.2.2.2.2.2.1, es68.2.2.2.2.2.2.2.2.2.2.2.2.1, es68.2.2.2.2.2.2.2.2.2.2.2.2.2.1, rfl⟩ (fun s70 Is70 Fs70 (es70 : s70 98 15 = σ2 98 15 ∧ s70 98 16 = σ2 98 16 ∧ s70 98 17 = σ2 98 17 ∧ s70 98 18 = σ2 98 18 ∧ s70 98 13 = 6 ∧ s70 98 14 = (σ2 98 16) ∧ s70 98 5 = σ2 98 5 ∧ s70 98 6 = σ2 98 6 ∧ s70 98 7 = σ2 98 7 ∧ s70 98 8 = σ2 98 8 ∧ s70 98 9 = σ2 98 9 ∧ s70 101 18 = σ2 101 18 ∧ s70 101 25 = σ2 101 25 ∧ s70 101 43 = σ2 101 43 ∧ s70 = h_up s68 98 14 (σ2 98 16)) => ?_))
        clear es68
        have us70 := es70.2.2.2.2.2.2.2.2.2.2.2.2.2.2
        refine h_vret rfl rfl (h_Kn ?_)
        refine d_toL (g_inj ns) hlw60 hRw60 (fun lvw71 memw71 hlw71 hRw71 => ?_)
        show h_T g_P (g_Y ns) 52 113 [(0, .ref 63)] [] s59 _
        exact h_wk [(0, .ref 63)] ⟨rfl, trivial⟩ (kx0 _ _ Is59 Is70 Fs59 Fs70 (Int.le_antisymm (by omega) (by omega)) (Int.le_antisymm (by omega) (by omega)) (Int.le_antisymm (by omega) (by omega)) (by omega) (fun h => absurd h (by omega)) (fun h => absurd h (by omega)) (Or.inl ⟨⟨by omega, by omega⟩, ⟨by omega, by omega⟩, Int.le_antisymm (by omega) (by omega), Int.le_antisymm (by omega) (by omega)⟩) _ _ (h_al_ok ⟨rfl, rfl, trivial⟩ hlw71) hRw71)
      · clear hz63 hz64
        refine h_aload_n (pc' := 105) rfl rfl rfl ?_
        refine h_getI (pc' := 108) (v := σ2 98 9) rfl rfl rfl rfl rfl rfl (fun z72 hz72 => ?_)
        have tz72 := tf_98_9 hI2
        refine h_aload_n (pc' := 109) rfl rfl rfl ?_
        refine h_getI (pc' := 112) (v := σ2 98 6) rfl rfl rfl rfl rfl rfl (fun z73 hz73 => ?_)
        have tz73 := tf_98_6 hI2
        refine h_clt (tg := 121) (pc' := 115) rfl rfl rfl hz72 hz73 (fun c74 => ?_) (fun c74 => ?_)
        · clear hz72 hz73
          exfalso
          omega
        · clear hz72 hz73
          refine h_aload_n (pc' := 116) rfl rfl rfl ?_
          refine h_bipush (pc' := 118) (x := (Int32.ofInt 6)) rfl rfl cb_6 ?_
          refine h_call (sp := false) (pc' := 121) (M := [(0, .ref 98), (1, .int (Int32.ofInt 6))]) rfl rfl rfl rfl rfl rfl rfl rfl ?_
          refine h_aload_n (pc' := 1) rfl rfl rfl ?_
          refine h_getI (pc' := 4) (v := σ2 98 13) rfl rfl rfl rfl rfl rfl (fun z76 hz76 => ?_)
          refine h_zne (tg := 20) (pc' := 7) rfl rfl rfl hz76 (fun c77 => absurd (Int.le_antisymm (by omega) (by omega)) c77) (fun c77 => ?_)
          clear hz76
          refine h_aload_n (pc' := 8) rfl rfl rfl ?_
          refine h_iload_n (pc' := 9) rfl rfl rfl ?_
          refine h_put (pc' := 12) rfl rfl rfl rfl rfl rfl ci_6 rfl (h_fgt (E := fun s => s 98 15 = σ2 98 15 ∧ s 98 16 = σ2 98 16 ∧ s 98 17 = σ2 98 17 ∧ s 98 18 = σ2 98 18 ∧ s 98 13 = 6 ∧ s 98 14 = σ2 98 14 ∧ s 98 5 = σ2 98 5 ∧ s 98 6 = σ2 98 6 ∧ s 98 7 = σ2 98 7 ∧ s 98 8 = σ2 98 8 ∧ s 98 9 = σ2 98 9 ∧ s 101 18 = σ2 101 18 ∧ s 101 25 = σ2 101 25 ∧ s 101 43 = σ2 101 43 ∧ s = h_up σ2 98 13 6) _ (if_98_13 hI2 (by omega)) (F2.up rfl) ⟨rfl, rfl, rfl, rfl, rfl, rfl, rfl, rfl, rfl, rfl, rfl, rfl, rfl, rfl, rfl⟩ (fun s78 Is78 Fs78 (es78 : s78 98 15 = σ2 98 15 ∧ s78 98 16 = σ2 98 16 ∧ s78 98 17 = σ2 98 17 ∧ s78 98 18 = σ2 98 18 ∧ s78 98 13 = 6 ∧ s78 98 14 = σ2 98 14 ∧ s78 98 5 = σ2 98 5 ∧ s78 98 6 = σ2 98 6 ∧ s78 98 7 = σ2 98 7 ∧ s78 98 8 = σ2 98 8 ∧ s78 98 9 = σ2 98 9 ∧ s78 101 18 = σ2 101 18 ∧ s78 101 25 = σ2 101 25 ∧ s78 101 43 = σ2 101 43 ∧ s78 = h_up σ2 98 13 6) => ?_))
          have us78 := es78.2.2.2.2.2.2.2.2.2.2.2.2.2.2
          refine h_aload_n (pc' := 13) rfl rfl rfl ?_
          refine h_aload_n (pc' := 14) rfl rfl rfl ?_
          refine h_getI (pc' := 17) (v := σ2 98 16) rfl rfl rfl rfl rfl es78.2.1 (fun z79 hz79 => ?_)
          have tz79 := tf_98_16 hI2
          refine h_put (pc' := 20) rfl rfl rfl rfl rfl rfl hz79 rfl (h_fgt (E := fun s => s 98 15 = σ2 98 15 ∧ s 98 16 = σ2 98 16 ∧ s 98 17 = σ2 98 17 ∧ s 98 18 = σ2 98 18 ∧ s 98 13 = 6 ∧ s 98 14 = (σ2 98 16) ∧ s 98 5 = σ2 98 5 ∧ s 98 6 = σ2 98 6 ∧ s 98 7 = σ2 98 7 ∧ s 98 8 = σ2 98 8 ∧ s 98 9 = σ2 98 9 ∧ s 101 18 = σ2 101 18 ∧ s 101 25 = σ2 101 25 ∧ s 101 43 = σ2 101 43 ∧ s = h_up s78 98 14 (σ2 98 16)) _ (if_98_14 Is78 (h_rgv hz79)) (Fs78.up rfl) ⟨es78.1, es78.2.1, es78.2.2.1, es78.2.2.2.1, es78.2.2.2.2.1, rfl, es78.2.2.2.2.2.2.1, es78.2.2.2.2.2.2.2.1, es78.2.2.2.2.2.2.2.2.1, es78.2.2.2.2.2.2.2.2.2.1, es78.2.2.2.2.2.2.2.2.2.2.1, es78.2.2.2.2.2.2.2.2.2.2.2.1, es78.2.2.2.2.2.2.2.2.2.2.2.2.1, es78.2.2.2.2.2.2.2.2.2.2.2.2.2.1, rfl⟩ (fun s80 Is80 Fs80 (es80 : s80 98 15 = σ2 98 15 ∧ s80 98 16 = σ2 98 16 ∧ s80 98 17 = σ2 98 17 ∧ s80 98 18 = σ2 98 18 ∧ s80 98 13 = 6 ∧ s80 98 14 = (σ2 98 16) ∧ s80 98 5 = σ2 98 5 ∧ s80 98 6 = σ2 98 6 ∧ s80 98 7 = σ2 98 7 ∧ s80 98 8 = σ2 98 8 ∧ s80 98 9 = σ2 98 9 ∧ s80 101 18 = σ2 101 18 ∧ s80 101 25 = σ2 101 25 ∧ s80 101 43 = σ2 101 43 ∧ s80 = h_up s78 98 14 (σ2 98 16)) => ?_))
          clear es78
          have us80 := es80.2.2.2.2.2.2.2.2.2.2.2.2.2.2
          refine h_vret rfl rfl (h_Kn ?_)
          refine d_toL (g_inj ns) hlw60 hRw60 (fun lvw81 memw81 hlw81 hRw81 => ?_)
          show h_T g_P (g_Y ns) 52 113 [(0, .ref 63)] [] s59 _
          exact h_wk [(0, .ref 63)] ⟨rfl, trivial⟩ (kx0 _ _ Is59 Is80 Fs59 Fs80 (Int.le_antisymm (by omega) (by omega)) (Int.le_antisymm (by omega) (by omega)) (Int.le_antisymm (by omega) (by omega)) (by omega) (fun h => absurd h (by omega)) (fun h => absurd h (by omega)) (Or.inl ⟨⟨by omega, by omega⟩, ⟨by omega, by omega⟩, Int.le_antisymm (by omega) (by omega), Int.le_antisymm (by omega) (by omega)⟩) _ _ (h_al_ok ⟨rfl, rfl, trivial⟩ hlw81) hRw81)
