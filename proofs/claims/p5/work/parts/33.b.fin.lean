set_option maxHeartbeats 100000000 in
theorem ls_fin {ns : Nat} {σ1 σ2 : h_S} (hI1 : h_I σ1) (hI2 : h_I σ2) (hTL : d_tape σ1 σ2) (y1 : Int32) (c1 : Int) (hy1 : y1.toInt = c1) (pr0 : σ1 64 2 = σ2 98 15) (pr1 : σ1 64 4 = σ2 98 16) (pr2 : σ1 63 2 = σ2 98 13) (pr3 : σ1 64 2 ≤ σ1 64 1) (pr4 : d_ok σ1 σ2) (pc0 : ((1 ≤ σ1 63 2 ∧ σ1 63 2 ≤ 6) ∧ (1 ≤ σ2 98 13 ∧ σ2 98 13 ≤ 6) ∧ (σ1 63 2 = σ2 98 13) ∧ (σ1 63 3 = σ2 98 14)) ∨ ((σ1 63 2 = 0) ∧ (σ1 64 3 = 0) ∧ (σ2 98 13 = 0) ∧ (σ2 98 17 = 0) ∧ (σ1 64 4 = σ1 64 1))) {cs1 cs2 : List d_Fr} {Q : d_Q} (kx0 : ∀ (s t : h_S), h_I s → h_I t → h_F (k_in k_pl) s σ1 → h_F (k_in k_pm) t σ2 → (s 64 2 = t 98 15) → (s 64 4 = t 98 16) → (s 63 2 = t 98 13) → (s 64 2 ≤ s 64 1) → (d_ok s t) → (s 63 2 = 0 → g_wh s) → (((1 ≤ s 63 2 ∧ s 63 2 ≤ 6) ∧ (1 ≤ t 98 13 ∧ t 98 13 ≤ 6) ∧ (s 63 2 = t 98 13) ∧ (s 63 3 = t 98 14)) ∨ ((s 63 2 = 0) ∧ (t 98 13 = 0))) → ∀ lv2 mem2, h_loc [(0, .ref 98), (1, .int y1)] lv2 → h_R (g_Y ns) t mem2 → h_T g_P (g_Y ns) 52 113 [(0, .ref 63)] [] s (d_cs g_P (g_Y ns) cs1 (d_L g_P (g_Y ns) (155, 121, lv2, []) cs2 mem2 Q))) : ∀ lv2 mem2, h_loc [(0, .ref 98), (1, .int y1)] lv2 → h_R (g_Y ns) σ2 mem2 → h_T g_P (g_Y ns) 52 83 [(0, .ref 63)] [] σ1 (d_cs g_P (g_Y ns) cs1 (d_L g_P (g_Y ns) (155, 86, lv2, []) cs2 mem2 Q)) := by
  intro lv2 mem2 hl2 hR2
  have hT := hTL.1
  have hL := hTL.2
  have F1 : h_F (k_in k_pl) σ1 σ1 := h_F.rf
  have F2 : h_F (k_in k_pm) σ2 σ2 := h_F.rf
  have ge0 := tf_64_1 hI1
  rcases pc0 with pc0 | pc0
  · show h_T g_P (g_Y ns) 52 83 [(0, .ref 63)] [] σ1 _
    refine h_aload_n (pc' := 84) rfl rfl rfl ?_
    refine h_getI (pc' := 87) (v := σ1 63 2) rfl rfl rfl rfl rfl rfl (fun z1 hz1 => ?_)
    have tz1 := tf_63_2 hI1
    refine h_zne (tg := 113) (pc' := 90) rfl rfl rfl hz1 (fun c2 => ?_) (fun c2 => absurd c2 (by omega))
    clear hz1
    refine d_toM (g_inj ns) hl2 hR2 (fun lvw3 memw3 hlw3 hRw3 => ?_)
    show h_T g_P (g_Y ns) 155 86 [(0, .ref 98), (1, .int y1)] [] σ2 _
    refine h_aload_n (pc' := 87) rfl rfl rfl ?_
    refine h_getI (pc' := 90) (v := σ2 98 13) rfl rfl rfl rfl rfl rfl (fun z4 hz4 => ?_)
    have tz4 := tf_98_13 hI2
    refine h_zne (tg := 121) (pc' := 93) rfl rfl rfl hz4 (fun c5 => ?_) (fun c5 => absurd c5 (by omega))
    clear hz4
    refine d_toL (g_inj ns) hlw3 hRw3 (fun lvw6 memw6 hlw6 hRw6 => ?_)
    show h_T g_P (g_Y ns) 52 113 [(0, .ref 63)] [] σ1 _
    exact h_wk [(0, .ref 63)] ⟨rfl, trivial⟩ (kx0 _ _ hI1 hI2 F1 F2 (by omega) (by omega) (by omega) (by omega) (fun h => absurd h (by omega)) (fun h => absurd h (by omega)) (Or.inl ⟨by omega, by omega, by omega, by omega⟩) _ _ (h_al_ok ⟨rfl, rfl, trivial⟩ hlw6) hRw6)
  · show h_T g_P (g_Y ns) 52 83 [(0, .ref 63)] [] σ1 _
    refine h_aload_n (pc' := 84) rfl rfl rfl ?_
    refine h_getI (pc' := 87) (v := σ1 63 2) rfl rfl rfl rfl rfl rfl (fun z7 hz7 => ?_)
    have tz7 := tf_63_2 hI1
    refine h_zne (tg := 113) (pc' := 90) rfl rfl rfl hz7 (fun c8 => absurd c8 (by omega)) (fun c8 => ?_)
    clear hz7
    refine h_aload_n (pc' := 91) rfl rfl rfl ?_
    refine h_getR (pc' := 94) rfl rfl rfl rfl rfl ?_
    refine h_call (sp := false) (pc' := 97) (M := [(0, .ref 66)]) rfl rfl rfl rfl rfl rfl rfl rfl ?_
    refine n_isWhole _ hI1  (fun r9 br9 hr9 tr9 ps10_0 => h_Kv ?_)
    have gw11 := d_iw (pr4 (by omega)) hI1 ps10_0
    refine h_zne (tg := 113) (pc' := 100) rfl rfl rfl hr9 (fun c12 => ?_) (fun c12 => ?_)
    · clear hr9
      refine d_toM (g_inj ns) hl2 hR2 (fun lvw13 memw13 hlw13 hRw13 => ?_)
      show h_T g_P (g_Y ns) 155 86 [(0, .ref 98), (1, .int y1)] [] σ2 _
      refine h_aload_n (pc' := 87) rfl rfl rfl ?_
      refine h_getI (pc' := 90) (v := σ2 98 13) rfl rfl rfl rfl rfl rfl (fun z14 hz14 => ?_)
      have tz14 := tf_98_13 hI2
      refine h_zne (tg := 121) (pc' := 93) rfl rfl rfl hz14 (fun c15 => absurd c15 (by omega)) (fun c15 => ?_)
      clear hz14
      refine h_aload_n (pc' := 94) rfl rfl rfl ?_
      refine h_getI (pc' := 97) (v := σ2 98 8) rfl rfl rfl rfl rfl rfl (fun z16 hz16 => ?_)
      have tz16 := tf_98_8 hI2
      refine h_aload_n (pc' := 98) rfl rfl rfl ?_
      refine h_getI (pc' := 101) (v := σ2 98 5) rfl rfl rfl rfl rfl rfl (fun z17 hz17 => ?_)
      have tz17 := tf_98_5 hI2
      refine h_cge (tg := 115) (pc' := 104) rfl rfl rfl hz16 hz17 (fun c18 => ?_) (fun c18 => ?_)
      · clear hz16 hz17
        refine h_aload_n (pc' := 116) rfl rfl rfl ?_
        refine h_bipush (pc' := 118) (x := (Int32.ofInt 6)) rfl rfl cb_6 ?_
        refine h_call (sp := false) (pc' := 121) (M := [(0, .ref 98), (1, .int (Int32.ofInt 6))]) rfl rfl rfl rfl rfl rfl rfl rfl ?_
        refine h_aload_n (pc' := 1) rfl rfl rfl ?_
        refine h_getI (pc' := 4) (v := σ2 98 13) rfl rfl rfl rfl rfl rfl (fun z19 hz19 => ?_)
        refine h_zne (tg := 20) (pc' := 7) rfl rfl rfl hz19 (fun c20 => absurd c20 (by omega)) (fun c20 => ?_)
        clear hz19
        refine h_aload_n (pc' := 8) rfl rfl rfl ?_
        refine h_iload_n (pc' := 9) rfl rfl rfl ?_
        refine h_put (pc' := 12) rfl rfl rfl rfl rfl rfl ci_6 rfl (h_fgt (E := fun s => s 98 15 = σ2 98 15 ∧ s 98 16 = σ2 98 16 ∧ s 98 17 = σ2 98 17 ∧ s 98 18 = σ2 98 18 ∧ s 98 13 = 6 ∧ s 98 14 = σ2 98 14 ∧ s 98 5 = σ2 98 5 ∧ s 98 6 = σ2 98 6 ∧ s 98 7 = σ2 98 7 ∧ s 98 8 = σ2 98 8 ∧ s 98 9 = σ2 98 9 ∧ s 101 18 = σ2 101 18 ∧ s 101 25 = σ2 101 25 ∧ s 101 43 = σ2 101 43 ∧ s = h_up σ2 98 13 6) _ (if_98_13 hI2 (by omega)) (F2.up rfl) ⟨rfl, rfl, rfl, rfl, rfl, rfl, rfl, rfl, rfl, rfl, rfl, rfl, rfl, rfl, rfl⟩ (fun s21 Is21 Fs21 (es21 : s21 98 15 = σ2 98 15 ∧ s21 98 16 = σ2 98 16 ∧ s21 98 17 = σ2 98 17 ∧ s21 98 18 = σ2 98 18 ∧ s21 98 13 = 6 ∧ s21 98 14 = σ2 98 14 ∧ s21 98 5 = σ2 98 5 ∧ s21 98 6 = σ2 98 6 ∧ s21 98 7 = σ2 98 7 ∧ s21 98 8 = σ2 98 8 ∧ s21 98 9 = σ2 98 9 ∧ s21 101 18 = σ2 101 18 ∧ s21 101 25 = σ2 101 25 ∧ s21 101 43 = σ2 101 43 ∧ s21 = h_up σ2 98 13 6) => ?_))
        refine h_aload_n (pc' := 13) rfl rfl rfl ?_
        refine h_aload_n (pc' := 14) rfl rfl rfl ?_
        refine h_getI (pc' := 17) (v := σ2 98 16) rfl rfl rfl rfl rfl es21.2.1 (fun z22 hz22 => ?_)
        have tz22 := tf_98_16 hI2
        refine h_put (pc' := 20) rfl rfl rfl rfl rfl rfl hz22 rfl (h_fgt (E := fun s => s 98 15 = σ2 98 15 ∧ s 98 16 = σ2 98 16 ∧ s 98 17 = σ2 98 17 ∧ s 98 18 = σ2 98 18 ∧ s 98 13 = 6 ∧ s 98 14 = (σ2 98 16) ∧ s 98 5 = σ2 98 5 ∧ s 98 6 = σ2 98 6 ∧ s 98 7 = σ2 98 7 ∧ s 98 8 = σ2 98 8 ∧ s 98 9 = σ2 98 9 ∧ s 101 18 = σ2 101 18 ∧ s 101 25 = σ2 101 25 ∧ s 101 43 = σ2 101 43 ∧ s = h_up s21 98 14 (σ2 98 16)) _ (if_98_14 Is21 (h_rgv hz22)) (Fs21.up rfl) ⟨es21.1, es21.2.1, es21.2.2.1, es21.2.2.2.1, es21.2.2.2.2.1, rfl, es21.2.2.2.2.2.2.1, es21.2.2.2.2.2.2.2.1, es21.2.2.2.2.2.2.2.2.1, es21.2.2.2.2.2.2.2.2.2.1, es21.2.2.2.2.2.2.2.2.2.2.1, es21.2.2.2.2.2.2.2.2.2.2.2.1, es21.2.2.2.2.2.2.2.2.2.2.2.2.1, es21.2.2.2.2.2.2.2.2.2.2.2.2.2.1, rfl⟩ (fun s23 Is23 Fs23 (es23 : s23 98 15 = σ2 98 15 ∧ s23 98 16 = σ2 98 16 ∧ s23 98 17 = σ2 98 17 ∧ s23 98 18 = σ2 98 18 ∧ s23 98 13 = 6 ∧ s23 98 14 = (σ2 98 16) ∧ s23 98 5 = σ2 98 5 ∧ s23 98 6 = σ2 98 6 ∧ s23 98 7 = σ2 98 7 ∧ s23 98 8 = σ2 98 8 ∧ s23 98 9 = σ2 98 9 ∧ s23 101 18 = σ2 101 18 ∧ s23 101 25 = σ2 101 25 ∧ s23 101 43 = σ2 101 43 ∧ s23 = h_up s21 98 14 (σ2 98 16)) => ?_))
        refine h_vret rfl rfl (h_Kn ?_)
        exfalso
        omega
      · clear hz16 hz17
        refine h_aload_n (pc' := 105) rfl rfl rfl ?_
        refine h_getI (pc' := 108) (v := σ2 98 9) rfl rfl rfl rfl rfl rfl (fun z25 hz25 => ?_)
        have tz25 := tf_98_9 hI2
        refine h_aload_n (pc' := 109) rfl rfl rfl ?_
        refine h_getI (pc' := 112) (v := σ2 98 6) rfl rfl rfl rfl rfl rfl (fun z26 hz26 => ?_)
        have tz26 := tf_98_6 hI2
        refine h_clt (tg := 121) (pc' := 115) rfl rfl rfl hz25 hz26 (fun c27 => ?_) (fun c27 => ?_)
        · clear hz25 hz26
          refine d_toL (g_inj ns) hlw13 hRw13 (fun lvw28 memw28 hlw28 hRw28 => ?_)
          show h_T g_P (g_Y ns) 52 113 [(0, .ref 63)] [] σ1 _
          exact h_wk [(0, .ref 63)] ⟨rfl, trivial⟩ (kx0 _ _ hI1 hI2 F1 F2 (by omega) (by omega) (by omega) (by omega) (pr4) (fun _ => gn_1 ps10_0 (by omega)) (Or.inr ⟨by omega, by omega⟩) _ _ (h_al_ok ⟨rfl, rfl, trivial⟩ hlw28) hRw28)
        · clear hz25 hz26
          refine h_aload_n (pc' := 116) rfl rfl rfl ?_
          refine h_bipush (pc' := 118) (x := (Int32.ofInt 6)) rfl rfl cb_6 ?_
          refine h_call (sp := false) (pc' := 121) (M := [(0, .ref 98), (1, .int (Int32.ofInt 6))]) rfl rfl rfl rfl rfl rfl rfl rfl ?_
          refine h_aload_n (pc' := 1) rfl rfl rfl ?_
          refine h_getI (pc' := 4) (v := σ2 98 13) rfl rfl rfl rfl rfl rfl (fun z29 hz29 => ?_)
          refine h_zne (tg := 20) (pc' := 7) rfl rfl rfl hz29 (fun c30 => absurd c30 (by omega)) (fun c30 => ?_)
          clear hz29
          refine h_aload_n (pc' := 8) rfl rfl rfl ?_
          refine h_iload_n (pc' := 9) rfl rfl rfl ?_
          refine h_put (pc' := 12) rfl rfl rfl rfl rfl rfl ci_6 rfl (h_fgt (E := fun s => s 98 15 = σ2 98 15 ∧ s 98 16 = σ2 98 16 ∧ s 98 17 = σ2 98 17 ∧ s 98 18 = σ2 98 18 ∧ s 98 13 = 6 ∧ s 98 14 = σ2 98 14 ∧ s 98 5 = σ2 98 5 ∧ s 98 6 = σ2 98 6 ∧ s 98 7 = σ2 98 7 ∧ s 98 8 = σ2 98 8 ∧ s 98 9 = σ2 98 9 ∧ s 101 18 = σ2 101 18 ∧ s 101 25 = σ2 101 25 ∧ s 101 43 = σ2 101 43 ∧ s = h_up σ2 98 13 6) _ (if_98_13 hI2 (by omega)) (F2.up rfl) ⟨rfl, rfl, rfl, rfl, rfl, rfl, rfl, rfl, rfl, rfl, rfl, rfl, rfl, rfl, rfl⟩ (fun s31 Is31 Fs31 (es31 : s31 98 15 = σ2 98 15 ∧ s31 98 16 = σ2 98 16 ∧ s31 98 17 = σ2 98 17 ∧ s31 98 18 = σ2 98 18 ∧ s31 98 13 = 6 ∧ s31 98 14 = σ2 98 14 ∧ s31 98 5 = σ2 98 5 ∧ s31 98 6 = σ2 98 6 ∧ s31 98 7 = σ2 98 7 ∧ s31 98 8 = σ2 98 8 ∧ s31 98 9 = σ2 98 9 ∧ s31 101 18 = σ2 101 18 ∧ s31 101 25 = σ2 101 25 ∧ s31 101 43 = σ2 101 43 ∧ s31 = h_up σ2 98 13 6) => ?_))
          refine h_aload_n (pc' := 13) rfl rfl rfl ?_
          refine h_aload_n (pc' := 14) rfl rfl rfl ?_
          refine h_getI (pc' := 17) (v := σ2 98 16) rfl rfl rfl rfl rfl es31.2.1 (fun z32 hz32 => ?_)
          have tz32 := tf_98_16 hI2
          refine h_put (pc' := 20) rfl rfl rfl rfl rfl rfl hz32 rfl (h_fgt (E := fun s => s 98 15 = σ2 98 15 ∧ s 98 16 = σ2 98 16 ∧ s 98 17 = σ2 98 17 ∧ s 98 18 = σ2 98 18 ∧ s 98 13 = 6 ∧ s 98 14 = (σ2 98 16) ∧ s 98 5 = σ2 98 5 ∧ s 98 6 = σ2 98 6 ∧ s 98 7 = σ2 98 7 ∧ s 98 8 = σ2 98 8 ∧ s 98 9 = σ2 98 9 ∧ s 101 18 = σ2 101 18 ∧ s 101 25 = σ2 101 25 ∧ s 101 43 = σ2 101 43 ∧ s = h_up s31 98 14 (σ2 98 16)) _ (if_98_14 Is31 (h_rgv hz32)) (Fs31.up rfl) ⟨es31.1, es31.2.1, es31.2.2.1, es31.2.2.2.1, es31.2.2.2.2.1, rfl, es31.2.2.2.2.2.2.1, es31.2.2.2.2.2.2.2.1, es31.2.2.2.2.2.2.2.2.1, es31.2.2.2.2.2.2.2.2.2.1, es31.2.2.2.2.2.2.2.2.2.2.1, es31.2.2.2.2.2.2.2.2.2.2.2.1, es31.2.2.2.2.2.2.2.2.2.2.2.2.1, es31.2.2.2.2.2.2.2.2.2.2.2.2.2.1, rfl⟩ (fun s33 Is33 Fs33 (es33 : s33 98 15 = σ2 98 15 ∧ s33 98 16 = σ2 98 16 ∧ s33 98 17 = σ2 98 17 ∧ s33 98 18 = σ2 98 18 ∧ s33 98 13 = 6 ∧ s33 98 14 = (σ2 98 16) ∧ s33 98 5 = σ2 98 5 ∧ s33 98 6 = σ2 98 6 ∧ s33 98 7 = σ2 98 7 ∧ s33 98 8 = σ2 98 8 ∧ s33 98 9 = σ2 98 9 ∧ s33 101 18 = σ2 101 18 ∧ s33 101 25 = σ2 101 25 ∧ s33 101 43 = σ2 101 43 ∧ s33 = h_up s31 98 14 (σ2 98 16)) => ?_))
          refine h_vret rfl rfl (h_Kn ?_)
          exfalso
          omega
    · clear hr9
      refine h_aload_n (pc' := 101) rfl rfl rfl ?_
      refine h_bipush (pc' := 103) (x := (Int32.ofInt 6)) rfl rfl cb_6 ?_
      refine h_aload_n (pc' := 104) rfl rfl rfl ?_
      refine h_getR (pc' := 107) rfl rfl rfl rfl rfl ?_
      refine h_getI (pc' := 110) (v := σ1 64 1) rfl rfl rfl rfl rfl rfl (fun z35 hz35 => ?_)
      have tz35 := tf_64_1 hI1
      refine h_call (sp := false) (pc' := 113) (M := [(0, .ref 63), (1, .int (Int32.ofInt 6)), (2, .int z35)]) rfl rfl rfl rfl rfl rfl rfl rfl ?_
      refine h_aload_n (pc' := 1) rfl rfl rfl ?_
      refine h_getI (pc' := 4) (v := σ1 63 2) rfl rfl rfl rfl rfl rfl (fun z36 hz36 => ?_)
      refine h_zne (tg := 17) (pc' := 7) rfl rfl rfl hz36 (fun c37 => absurd c37 (by omega)) (fun c37 => ?_)
      clear hz36
      refine h_aload_n (pc' := 8) rfl rfl rfl ?_
      refine h_iload_n (pc' := 9) rfl rfl rfl ?_
      refine h_put (pc' := 12) rfl rfl rfl rfl rfl rfl ci_6 rfl (h_fgt (E := fun s => s 64 2 = σ1 64 2 ∧ s 64 4 = σ1 64 4 ∧ s 64 3 = σ1 64 3 ∧ s 64 5 = σ1 64 5 ∧ s 63 2 = 6 ∧ s 63 3 = σ1 63 3 ∧ s 64 1 = σ1 64 1 ∧ s 66 8 = σ1 66 8 ∧ s 66 9 = σ1 66 9 ∧ s 66 10 = σ1 66 10 ∧ s 69 2 = σ1 69 2 ∧ s 72 2 = σ1 72 2 ∧ s 63 5 = σ1 63 5 ∧ s 63 4 = σ1 63 4 ∧ s = h_up σ1 63 2 6) _ (if_63_2 hI1 (by omega)) (F1.up rfl) ⟨rfl, rfl, rfl, rfl, rfl, rfl, rfl, rfl, rfl, rfl, rfl, rfl, rfl, rfl, rfl⟩ (fun s38 Is38 Fs38 (es38 : s38 64 2 = σ1 64 2 ∧ s38 64 4 = σ1 64 4 ∧ s38 64 3 = σ1 64 3 ∧ s38 64 5 = σ1 64 5 ∧ s38 63 2 = 6 ∧ s38 63 3 = σ1 63 3 ∧ s38 64 1 = σ1 64 1 ∧ s38 66 8 = σ1 66 8 ∧ s38 66 9 = σ1 66 9 ∧ s38 66 10 = σ1 66 10 ∧ s38 69 2 = σ1 69 2 ∧ s38 72 2 = σ1 72 2 ∧ s38 63 5 = σ1 63 5 ∧ s38 63 4 = σ1 63 4 ∧ s38 = h_up σ1 63 2 6) => ?_))
      refine h_aload_n (pc' := 13) rfl rfl rfl ?_
      refine h_iload_n (pc' := 14) rfl rfl rfl ?_
      refine h_put (pc' := 17) rfl rfl rfl rfl rfl rfl hz35 rfl (h_fgt (E := fun s => s 64 2 = σ1 64 2 ∧ s 64 4 = σ1 64 4 ∧ s 64 3 = σ1 64 3 ∧ s 64 5 = σ1 64 5 ∧ s 63 2 = 6 ∧ s 63 3 = (σ1 64 1) ∧ s 64 1 = σ1 64 1 ∧ s 66 8 = σ1 66 8 ∧ s 66 9 = σ1 66 9 ∧ s 66 10 = σ1 66 10 ∧ s 69 2 = σ1 69 2 ∧ s 72 2 = σ1 72 2 ∧ s 63 5 = σ1 63 5 ∧ s 63 4 = σ1 63 4 ∧ s = h_up s38 63 3 (σ1 64 1)) _ (if_63_3 Is38 (h_rgv hz35)) (Fs38.up rfl) ⟨es38.1, es38.2.1, es38.2.2.1, es38.2.2.2.1, es38.2.2.2.2.1, rfl, es38.2.2.2.2.2.2.1, es38.2.2.2.2.2.2.2.1, es38.2.2.2.2.2.2.2.2.1, es38.2.2.2.2.2.2.2.2.2.1, es38.2.2.2.2.2.2.2.2.2.2.1, es38.2.2.2.2.2.2.2.2.2.2.2.1, es38.2.2.2.2.2.2.2.2.2.2.2.2.1, es38.2.2.2.2.2.2.2.2.2.2.2.2.2.1, rfl⟩ (fun s39 Is39 Fs39 (es39 : s39 64 2 = σ1 64 2 ∧ s39 64 4 = σ1 64 4 ∧ s39 64 3 = σ1 64 3 ∧ s39 64 5 = σ1 64 5 ∧ s39 63 2 = 6 ∧ s39 63 3 = (σ1 64 1) ∧ s39 64 1 = σ1 64 1 ∧ s39 66 8 = σ1 66 8 ∧ s39 66 9 = σ1 66 9 ∧ s39 66 10 = σ1 66 10 ∧ s39 69 2 = σ1 69 2 ∧ s39 72 2 = σ1 72 2 ∧ s39 63 5 = σ1 63 5 ∧ s39 63 4 = σ1 63 4 ∧ s39 = h_up s38 63 3 (σ1 64 1)) => ?_))
      refine h_vret rfl rfl (h_Kn ?_)
      refine d_toM (g_inj ns) hl2 hR2 (fun lvw40 memw40 hlw40 hRw40 => ?_)
      show h_T g_P (g_Y ns) 155 86 [(0, .ref 98), (1, .int y1)] [] σ2 _
      refine h_aload_n (pc' := 87) rfl rfl rfl ?_
      refine h_getI (pc' := 90) (v := σ2 98 13) rfl rfl rfl rfl rfl rfl (fun z41 hz41 => ?_)
      have tz41 := tf_98_13 hI2
      refine h_zne (tg := 121) (pc' := 93) rfl rfl rfl hz41 (fun c42 => absurd c42 (by omega)) (fun c42 => ?_)
      clear hz41
      refine h_aload_n (pc' := 94) rfl rfl rfl ?_
      refine h_getI (pc' := 97) (v := σ2 98 8) rfl rfl rfl rfl rfl rfl (fun z43 hz43 => ?_)
      have tz43 := tf_98_8 hI2
      refine h_aload_n (pc' := 98) rfl rfl rfl ?_
      refine h_getI (pc' := 101) (v := σ2 98 5) rfl rfl rfl rfl rfl rfl (fun z44 hz44 => ?_)
      have tz44 := tf_98_5 hI2
      refine h_cge (tg := 115) (pc' := 104) rfl rfl rfl hz43 hz44 (fun c45 => ?_) (fun c45 => ?_)
      · clear hz43 hz44
        refine h_aload_n (pc' := 116) rfl rfl rfl ?_
        refine h_bipush (pc' := 118) (x := (Int32.ofInt 6)) rfl rfl cb_6 ?_
        refine h_call (sp := false) (pc' := 121) (M := [(0, .ref 98), (1, .int (Int32.ofInt 6))]) rfl rfl rfl rfl rfl rfl rfl rfl ?_
        refine h_aload_n (pc' := 1) rfl rfl rfl ?_
        refine h_getI (pc' := 4) (v := σ2 98 13) rfl rfl rfl rfl rfl rfl (fun z46 hz46 => ?_)
        refine h_zne (tg := 20) (pc' := 7) rfl rfl rfl hz46 (fun c47 => absurd c47 (by omega)) (fun c47 => ?_)
        clear hz46
        refine h_aload_n (pc' := 8) rfl rfl rfl ?_
        refine h_iload_n (pc' := 9) rfl rfl rfl ?_
        refine h_put (pc' := 12) rfl rfl rfl rfl rfl rfl ci_6 rfl (h_fgt (E := fun s => s 98 15 = σ2 98 15 ∧ s 98 16 = σ2 98 16 ∧ s 98 17 = σ2 98 17 ∧ s 98 18 = σ2 98 18 ∧ s 98 13 = 6 ∧ s 98 14 = σ2 98 14 ∧ s 98 5 = σ2 98 5 ∧ s 98 6 = σ2 98 6 ∧ s 98 7 = σ2 98 7 ∧ s 98 8 = σ2 98 8 ∧ s 98 9 = σ2 98 9 ∧ s 101 18 = σ2 101 18 ∧ s 101 25 = σ2 101 25 ∧ s 101 43 = σ2 101 43 ∧ s = h_up σ2 98 13 6) _ (if_98_13 hI2 (by omega)) (F2.up rfl) ⟨rfl, rfl, rfl, rfl, rfl, rfl, rfl, rfl, rfl, rfl, rfl, rfl, rfl, rfl, rfl⟩ (fun s48 Is48 Fs48 (es48 : s48 98 15 = σ2 98 15 ∧ s48 98 16 = σ2 98 16 ∧ s48 98 17 = σ2 98 17 ∧ s48 98 18 = σ2 98 18 ∧ s48 98 13 = 6 ∧ s48 98 14 = σ2 98 14 ∧ s48 98 5 = σ2 98 5 ∧ s48 98 6 = σ2 98 6 ∧ s48 98 7 = σ2 98 7 ∧ s48 98 8 = σ2 98 8 ∧ s48 98 9 = σ2 98 9 ∧ s48 101 18 = σ2 101 18 ∧ s48 101 25 = σ2 101 25 ∧ s48 101 43 = σ2 101 43 ∧ s48 = h_up σ2 98 13 6) => ?_))
        refine h_aload_n (pc' := 13) rfl rfl rfl ?_
        refine h_aload_n (pc' := 14) rfl rfl rfl ?_
        refine h_getI (pc' := 17) (v := σ2 98 16) rfl rfl rfl rfl rfl es48.2.1 (fun z49 hz49 => ?_)
        have tz49 := tf_98_16 hI2
        refine h_put (pc' := 20) rfl rfl rfl rfl rfl rfl hz49 rfl (h_fgt (E := fun s => s 98 15 = σ2 98 15 ∧ s 98 16 = σ2 98 16 ∧ s 98 17 = σ2 98 17 ∧ s 98 18 = σ2 98 18 ∧ s 98 13 = 6 ∧ s 98 14 = (σ2 98 16) ∧ s 98 5 = σ2 98 5 ∧ s 98 6 = σ2 98 6 ∧ s 98 7 = σ2 98 7 ∧ s 98 8 = σ2 98 8 ∧ s 98 9 = σ2 98 9 ∧ s 101 18 = σ2 101 18 ∧ s 101 25 = σ2 101 25 ∧ s 101 43 = σ2 101 43 ∧ s = h_up s48 98 14 (σ2 98 16)) _ (if_98_14 Is48 (h_rgv hz49)) (Fs48.up rfl) ⟨es48.1, es48.2.1, es48.2.2.1, es48.2.2.2.1, es48.2.2.2.2.1, rfl, es48.2.2.2.2.2.2.1, es48.2.2.2.2.2.2.2.1, es48.2.2.2.2.2.2.2.2.1, es48.2.2.2.2.2.2.2.2.2.1, es48.2.2.2.2.2.2.2.2.2.2.1, es48.2.2.2.2.2.2.2.2.2.2.2.1, es48.2.2.2.2.2.2.2.2.2.2.2.2.1, es48.2.2.2.2.2.2.2.2.2.2.2.2.2.1, rfl⟩ (fun s50 Is50 Fs50 (es50 : s50 98 15 = σ2 98 15 ∧ s50 98 16 = σ2 98 16 ∧ s50 98 17 = σ2 98 17 ∧ s50 98 18 = σ2 98 18 ∧ s50 98 13 = 6 ∧ s50 98 14 = (σ2 98 16) ∧ s50 98 5 = σ2 98 5 ∧ s50 98 6 = σ2 98 6 ∧ s50 98 7 = σ2 98 7 ∧ s50 98 8 = σ2 98 8 ∧ s50 98 9 = σ2 98 9 ∧ s50 101 18 = σ2 101 18 ∧ s50 101 25 = σ2 101 25 ∧ s50 101 43 = σ2 101 43 ∧ s50 = h_up s48 98 14 (σ2 98 16)) => ?_))
        refine h_vret rfl rfl (h_Kn ?_)
        refine d_toL (g_inj ns) hlw40 hRw40 (fun lvw51 memw51 hlw51 hRw51 => ?_)
        show h_T g_P (g_Y ns) 52 113 [(0, .ref 63)] [] s39 _
        exact h_wk [(0, .ref 63)] ⟨rfl, trivial⟩ (kx0 _ _ Is39 Is50 Fs39 Fs50 (by omega) (by omega) (by omega) (by omega) (fun h => absurd h (by omega)) (fun h => absurd h (by omega)) (Or.inl ⟨by omega, by omega, by omega, by omega⟩) _ _ (h_al_ok ⟨rfl, rfl, trivial⟩ hlw51) hRw51)
      · clear hz43 hz44
        refine h_aload_n (pc' := 105) rfl rfl rfl ?_
        refine h_getI (pc' := 108) (v := σ2 98 9) rfl rfl rfl rfl rfl rfl (fun z52 hz52 => ?_)
        have tz52 := tf_98_9 hI2
        refine h_aload_n (pc' := 109) rfl rfl rfl ?_
        refine h_getI (pc' := 112) (v := σ2 98 6) rfl rfl rfl rfl rfl rfl (fun z53 hz53 => ?_)
        have tz53 := tf_98_6 hI2
        refine h_clt (tg := 121) (pc' := 115) rfl rfl rfl hz52 hz53 (fun c54 => ?_) (fun c54 => ?_)
        · clear hz52 hz53
          exfalso
          omega
        · clear hz52 hz53
          refine h_aload_n (pc' := 116) rfl rfl rfl ?_
          refine h_bipush (pc' := 118) (x := (Int32.ofInt 6)) rfl rfl cb_6 ?_
          refine h_call (sp := false) (pc' := 121) (M := [(0, .ref 98), (1, .int (Int32.ofInt 6))]) rfl rfl rfl rfl rfl rfl rfl rfl ?_
          refine h_aload_n (pc' := 1) rfl rfl rfl ?_
          refine h_getI (pc' := 4) (v := σ2 98 13) rfl rfl rfl rfl rfl rfl (fun z56 hz56 => ?_)
          refine h_zne (tg := 20) (pc' := 7) rfl rfl rfl hz56 (fun c57 => absurd c57 (by omega)) (fun c57 => ?_)
          clear hz56
          refine h_aload_n (pc' := 8) rfl rfl rfl ?_
          refine h_iload_n (pc' := 9) rfl rfl rfl ?_
          refine h_put (pc' := 12) rfl rfl rfl rfl rfl rfl ci_6 rfl (h_fgt (E := fun s => s 98 15 = σ2 98 15 ∧ s 98 16 = σ2 98 16 ∧ s 98 17 = σ2 98 17 ∧ s 98 18 = σ2 98 18 ∧ s 98 13 = 6 ∧ s 98 14 = σ2 98 14 ∧ s 98 5 = σ2 98 5 ∧ s 98 6 = σ2 98 6 ∧ s 98 7 = σ2 98 7 ∧ s 98 8 = σ2 98 8 ∧ s 98 9 = σ2 98 9 ∧ s 101 18 = σ2 101 18 ∧ s 101 25 = σ2 101 25 ∧ s 101 43 = σ2 101 43 ∧ s = h_up σ2 98 13 6) _ (if_98_13 hI2 (by omega)) (F2.up rfl) ⟨rfl, rfl, rfl, rfl, rfl, rfl, rfl, rfl, rfl, rfl, rfl, rfl, rfl, rfl, rfl⟩ (fun s58 Is58 Fs58 (es58 : s58 98 15 = σ2 98 15 ∧ s58 98 16 = σ2 98 16 ∧ s58 98 17 = σ2 98 17 ∧ s58 98 18 = σ2 98 18 ∧ s58 98 13 = 6 ∧ s58 98 14 = σ2 98 14 ∧ s58 98 5 = σ2 98 5 ∧ s58 98 6 = σ2 98 6 ∧ s58 98 7 = σ2 98 7 ∧ s58 98 8 = σ2 98 8 ∧ s58 98 9 = σ2 98 9 ∧ s58 101 18 = σ2 101 18 ∧ s58 101 25 = σ2 101 25 ∧ s58 101 43 = σ2 101 43 ∧ s58 = h_up σ2 98 13 6) => ?_))
          refine h_aload_n (pc' := 13) rfl rfl rfl ?_
          refine h_aload_n (pc' := 14) rfl rfl rfl ?_
          refine h_getI (pc' := 17) (v := σ2 98 16) rfl rfl rfl rfl rfl es58.2.1 (fun z59 hz59 => ?_)
          have tz59 := tf_98_16 hI2
          refine h_put (pc' := 20) rfl rfl rfl rfl rfl rfl hz59 rfl (h_fgt (E := fun s => s 98 15 = σ2 98 15 ∧ s 98 16 = σ2 98 16 ∧ s 98 17 = σ2 98 17 ∧ s 98 18 = σ2 98 18 ∧ s 98 13 = 6 ∧ s 98 14 = (σ2 98 16) ∧ s 98 5 = σ2 98 5 ∧ s 98 6 = σ2 98 6 ∧ s 98 7 = σ2 98 7 ∧ s 98 8 = σ2 98 8 ∧ s 98 9 = σ2 98 9 ∧ s 101 18 = σ2 101 18 ∧ s 101 25 = σ2 101 25 ∧ s 101 43 = σ2 101 43 ∧ s = h_up s58 98 14 (σ2 98 16)) _ (if_98_14 Is58 (h_rgv hz59)) (Fs58.up rfl) ⟨es58.1, es58.2.1, es58.2.2.1, es58.2.2.2.1, es58.2.2.2.2.1, rfl, es58.2.2.2.2.2.2.1, es58.2.2.2.2.2.2.2.1, es58.2.2.2.2.2.2.2.2.1, es58.2.2.2.2.2.2.2.2.2.1, es58.2.2.2.2.2.2.2.2.2.2.1, es58.2.2.2.2.2.2.2.2.2.2.2.1, es58.2.2.2.2.2.2.2.2.2.2.2.2.1, es58.2.2.2.2.2.2.2.2.2.2.2.2.2.1, rfl⟩ (fun s60 Is60 Fs60 (es60 : s60 98 15 = σ2 98 15 ∧ s60 98 16 = σ2 98 16 ∧ s60 98 17 = σ2 98 17 ∧ s60 98 18 = σ2 98 18 ∧ s60 98 13 = 6 ∧ s60 98 14 = (σ2 98 16) ∧ s60 98 5 = σ2 98 5 ∧ s60 98 6 = σ2 98 6 ∧ s60 98 7 = σ2 98 7 ∧ s60 98 8 = σ2 98 8 ∧ s60 98 9 = σ2 98 9 ∧ s60 101 18 = σ2 101 18 ∧ s60 101 25 = σ2 101 25 ∧ s60 101 43 = σ2 101 43 ∧ s60 = h_up s58 98 14 (σ2 98 16)) => ?_))
          refine h_vret rfl rfl (h_Kn ?_)
          refine d_toL (g_inj ns) hlw40 hRw40 (fun lvw61 memw61 hlw61 hRw61 => ?_)
          show h_T g_P (g_Y ns) 52 113 [(0, .ref 63)] [] s39 _
          exact h_wk [(0, .ref 63)] ⟨rfl, trivial⟩ (kx0 _ _ Is39 Is60 Fs39 Fs60 (by omega) (by omega) (by omega) (by omega) (fun h => absurd h (by omega)) (fun h => absurd h (by omega)) (Or.inl ⟨by omega, by omega, by omega, by omega⟩) _ _ (h_al_ok ⟨rfl, rfl, trivial⟩ hlw61) hRw61)
