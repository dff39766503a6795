set_option maxHeartbeats 100000000 in
theorem ls_pln {ns : Nat} {σ1 σ2 : h_S} (hI1 : h_I σ1) (hI2 : h_I σ2) (hTL : d_tape σ1 σ2) (x1 : Int32) (a1 : Int) (hx1 : x1.toInt = a1) (y1 : Int32) (c1 : Int) (hy1 : y1.toInt = c1) (pr0 : σ1 64 2 = σ2 98 15) (pr1 : σ1 64 4 = σ2 98 16) (pr2 : σ1 63 2 = σ2 98 13) (pr3 : σ1 66 8 = σ2 98 5) (pr4 : σ1 66 9 = σ2 98 6) (pr5 : σ1 66 10 = σ2 101 43) (pr6 : σ1 69 2 = σ2 101 18) (pr7 : σ1 72 2 = σ2 101 25) (pr8 : σ1 63 5 = σ2 98 7) (pr9 : σ1 64 2 ≤ σ1 64 1) (pr10 : d_RD σ1 σ2) (pr11 : a1 = c1) (pr12 : a1 = 7) (pc0 : ((σ1 63 2 = 0) ∧ (σ2 98 13 = 0))) {cs1 cs2 : List d_Fr} {Q : d_Q} (kx0 : ∀ (s t : h_S), h_I s → h_I t → h_F (k_in k_pl) s σ1 → h_F (k_in k_pm) t σ2 → (s 64 2 = t 98 15) → (s 64 4 = t 98 16) → (s 63 2 = t 98 13) → (s 64 2 ≤ s 64 1) → (σ1 64 2 ≤ s 64 2) → (d_ok s t) → (((1 ≤ s 63 2 ∧ s 63 2 ≤ 6) ∧ (1 ≤ t 98 13 ∧ t 98 13 ≤ 6) ∧ (s 63 2 = t 98 13) ∧ (s 63 3 = t 98 14)) ∨ ((s 63 2 = 0) ∧ (s 64 3 = 3) ∧ (t 98 13 = 0) ∧ (t 98 17 = 3) ∧ (s 64 4 < s 64 2) ∧ (σ1 64 2 < s 64 2))) → ∀ lv2 mem2, h_loc [(0, .ref 98)] lv2 → h_R (g_Y ns) t mem2 → h_T g_P (g_Y ns) 56 180 [(0, .ref 63)] [] s (d_cs g_P (g_Y ns) cs1 (d_L g_P (g_Y ns) (154, 165, lv2, []) cs2 mem2 Q))) (kx1 : ∀ (s t : h_S), h_I s → h_I t → h_F (k_in k_pl) s σ1 → h_F (k_in k_pm) t σ2 → (s 64 2 = t 98 15) → (s 64 4 = t 98 16) → (s 63 2 = t 98 13) → (s 64 2 ≤ s 64 1) → (σ1 64 2 ≤ s 64 2) → (((1 ≤ s 63 2 ∧ s 63 2 ≤ 6) ∧ (1 ≤ t 98 13 ∧ t 98 13 ≤ 6) ∧ (s 63 2 = t 98 13) ∧ (s 63 3 = t 98 14))) → ∀ lv2 mem2, h_loc [(0, .ref 98)] lv2 → h_R (g_Y ns) t mem2 → h_T g_P (g_Y ns) 56 180 [(0, .ref 63)] [] s (d_cs g_P (g_Y ns) cs1 (d_L g_P (g_Y ns) (154, 139, lv2, []) cs2 mem2 Q))) : ∀ lv2 mem2, h_loc [(0, .ref 98), (1, .int y1)] lv2 → h_R (g_Y ns) σ2 mem2 → h_T g_P (g_Y ns) 56 123 [(0, .ref 63), (1, .int x1)] [] σ1 (d_cs g_P (g_Y ns) cs1 (d_L g_P (g_Y ns) (154, 23, lv2, []) cs2 mem2 Q)) := by
  intro lv2 mem2 hl2 hR2
  have hT := hTL.1
  have hL := hTL.2
  have F1 : h_F (k_in k_pl) σ1 σ1 := h_F.rf
  have F2 : h_F (k_in k_pm) σ2 σ2 := h_F.rf
  have ge0 := tf_64_1 hI1
  have ge1 := tf_66_8 hI1
  have ge2 := tf_66_9 hI1
  have ge3 := tf_66_10 hI1
  have ge4 := tf_69_2 hI1
  have ge5 := tf_72_2 hI1
  have ge6 := tf_63_5 hI1
  have ge7 := tf_63_2 hI1
  have ge8 := tf_98_8 hI2
  have ge9 := tf_98_9 hI2
  have ge10 := tf_98_13 hI2
  have ge11 := pr10.1.2.2.2.2.2.2
  rcases pc0 with pc0
  · show h_T g_P (g_Y ns) 56 123 [(0, .ref 63), (1, .int x1)] [] σ1 _
    refine h_aload_n (pc' := 124) rfl rfl rfl ?_
    refine d_call (g_inj ns) (pc' := 127) (m := 62) (M := [(0, .ref 63)]) (rest := []) ⟨false, _, _, _, _, _, _, rfl, rfl, rfl, rfl, rfl, rfl, rfl⟩ (fun lv21 hlv21 => ?_)
    refine h_aload_n (pc' := 1) rfl rfl rfl ?_
    refine h_getI (pc' := 4) (v := σ1 63 5) rfl rfl rfl rfl rfl rfl (fun z22 hz22 => ?_)
    have tz22 := tf_63_5 hI1
    refine h_zeq (tg := 19) (pc' := 7) rfl rfl rfl hz22 (fun c23 => ?_) (fun c23 => ?_)
    · clear hz22
      refine h_aload_n (pc' := 20) rfl rfl rfl ?_
      refine h_iconst (pc' := 21) (x := (Int32.ofInt 1)) rfl rfl rfl ?_
      refine h_put (pc' := 24) rfl rfl rfl rfl rfl rfl ci_1 (h_fb ci_1 (by omega)) (h_fgt (E := fun s => s 64 2 = σ1 64 2 ∧ s 64 4 = σ1 64 4 ∧ s 64 3 = σ1 64 3 ∧ s 64 5 = σ1 64 5 ∧ s 63 2 = σ1 63 2 ∧ s 63 3 = σ1 63 3 ∧ s 64 1 = σ1 64 1 ∧ s 66 8 = σ1 66 8 ∧ s 66 9 = σ1 66 9 ∧ s 66 10 = σ1 66 10 ∧ s 69 2 = σ1 69 2 ∧ s 72 2 = σ1 72 2 ∧ s 63 5 = 1 ∧ s = h_up σ1 63 5 1) _ (if_63_5 hI1 (by omega)) (F1.up rfl) ⟨rfl, rfl, rfl, rfl, rfl, rfl, rfl, rfl, rfl, rfl, rfl, rfl, rfl, rfl⟩ (fun s24 Is24 Fs24 (es24 : s24 64 2 = σ1 64 2 ∧ s24 64 4 = σ1 64 4 ∧ s24 64 3 = σ1 64 3 ∧ s24 64 5 = σ1 64 5 ∧ s24 63 2 = σ1 63 2 ∧ s24 63 3 = σ1 63 3 ∧ s24 64 1 = σ1 64 1 ∧ s24 66 8 = σ1 66 8 ∧ s24 66 9 = σ1 66 9 ∧ s24 66 10 = σ1 66 10 ∧ s24 69 2 = σ1 69 2 ∧ s24 72 2 = σ1 72 2 ∧ s24 63 5 = 1 ∧ s24 = h_up σ1 63 5 1) => ?_))
      have us24 := es24.2.2.2.2.2.2.2.2.2.2.2.2.2
      refine h_aload_n (pc' := 25) rfl rfl rfl ?_
      refine d_toM (g_inj ns) hl2 hR2 (fun lvw25 memw25 hlw25 hRw25 => ?_)
      show h_T g_P (g_Y ns) 154 23 [(0, .ref 98), (1, .int y1)] [] σ2 _
      refine h_iload_n (pc' := 24) rfl rfl rfl ?_
      refine h_iconst (pc' := 25) (x := (Int32.ofInt 3)) rfl rfl rfl ?_
      refine h_cgt (tg := 37) (pc' := 28) rfl rfl rfl hy1 ci_3 (fun c26 => ?_) (fun c26 => absurd c26 (by omega))
      refine h_iload_n (pc' := 38) rfl rfl rfl ?_
      refine h_iconst (pc' := 39) (x := (Int32.ofInt 4)) rfl rfl rfl ?_
      refine h_cne (tg := 53) (pc' := 42) rfl rfl rfl hy1 ci_4 (fun c27 => ?_) (fun c27 => absurd c27 (by omega))
      refine h_iload_n (pc' := 54) rfl rfl rfl ?_
      refine h_iconst (pc' := 55) (x := (Int32.ofInt 5)) rfl rfl rfl ?_
      refine h_cne (tg := 69) (pc' := 58) rfl rfl rfl hy1 ci_5 (fun c28 => ?_) (fun c28 => absurd c28 (by omega))
      refine h_iload_n (pc' := 70) rfl rfl rfl ?_
      refine h_bipush (pc' := 72) (x := (Int32.ofInt 6)) rfl rfl cb_6 ?_
      refine h_cne (tg := 88) (pc' := 75) rfl rfl rfl hy1 ci_6 (fun c29 => ?_) (fun c29 => absurd c29 (by omega))
      refine h_iload_n (pc' := 89) rfl rfl rfl ?_
      refine h_bipush (pc' := 91) (x := (Int32.ofInt 7)) rfl rfl cb_7 ?_
      refine h_cne (tg := 106) (pc' := 94) rfl rfl rfl hy1 ci_7 (fun c30 => absurd (Int.le_antisymm (by omega) (by omega)) c30) (fun c30 => ?_)
      refine h_aload_n (pc' := 95) rfl rfl rfl ?_
      refine h_getI (pc' := 98) (v := σ2 98 7) rfl rfl rfl rfl rfl rfl (fun z31 hz31 => ?_)
      have tz31 := tf_98_7 hI2
      refine h_zeq (tg := 106) (pc' := 101) rfl rfl rfl hz31 (fun c32 => ?_) (fun c32 => absurd (Int.le_antisymm (by omega) (by omega)) c32)
      clear hz31
      refine h_aload_n (pc' := 107) rfl rfl rfl ?_
      refine h_aload_n (pc' := 108) rfl rfl rfl ?_
      refine h_getI (pc' := 111) (v := σ2 98 7) rfl rfl rfl rfl rfl rfl (fun z33 hz33 => ?_)
      refine h_zne (tg := 120) (pc' := 114) rfl rfl rfl hz33 (fun c34 => absurd (Int.le_antisymm (by omega) (by omega)) c34) (fun c34 => ?_)
      clear hz33
      refine h_iload_n (pc' := 115) rfl rfl rfl ?_
      refine h_bipush (pc' := 117) (x := (Int32.ofInt 7)) rfl rfl cb_7 ?_
      refine h_cne (tg := 124) (pc' := 120) rfl rfl rfl hy1 ci_7 (fun c35 => absurd (Int.le_antisymm (by omega) (by omega)) c35) (fun c35 => ?_)
      refine h_iconst (pc' := 121) (x := (Int32.ofInt 1)) rfl rfl rfl ?_
      refine h_goto (pc' := 125) rfl rfl ?_
      refine h_put (pc' := 128) rfl rfl rfl rfl rfl rfl ci_1 (h_fb ci_1 (by omega)) (h_fgt (E := fun s => s 98 15 = σ2 98 15 ∧ s 98 16 = σ2 98 16 ∧ s 98 17 = σ2 98 17 ∧ s 98 18 = σ2 98 18 ∧ s 98 13 = σ2 98 13 ∧ s 98 14 = σ2 98 14 ∧ s 98 5 = σ2 98 5 ∧ s 98 6 = σ2 98 6 ∧ s 98 7 = 1 ∧ s 98 8 = σ2 98 8 ∧ s 98 9 = σ2 98 9 ∧ s 101 18 = σ2 101 18 ∧ s 101 25 = σ2 101 25 ∧ s 101 43 = σ2 101 43 ∧ s = h_up σ2 98 7 1) _ (if_98_7 hI2 (by omega)) (F2.up rfl) ⟨rfl, rfl, rfl, rfl, rfl, rfl, rfl, rfl, rfl, rfl, rfl, rfl, rfl, rfl, rfl⟩ (fun s36 Is36 Fs36 (es36 : s36 98 15 = σ2 98 15 ∧ s36 98 16 = σ2 98 16 ∧ s36 98 17 = σ2 98 17 ∧ s36 98 18 = σ2 98 18 ∧ s36 98 13 = σ2 98 13 ∧ s36 98 14 = σ2 98 14 ∧ s36 98 5 = σ2 98 5 ∧ s36 98 6 = σ2 98 6 ∧ s36 98 7 = 1 ∧ s36 98 8 = σ2 98 8 ∧ s36 98 9 = σ2 98 9 ∧ s36 101 18 = σ2 101 18 ∧ s36 101 25 = σ2 101 25 ∧ s36 101 43 = σ2 101 43 ∧ s36 = h_up σ2 98 7 1) => ?_))
      have us36 := es36.2.2.2.2.2.2.2.2.2.2.2.2.2.2
      refine h_aload_n (pc' := 129) rfl rfl rfl ?_
      refine d_pcall (g_inj ns) (m1 := 54) (pc1' := 28) (M1 := [(0, .ref 63)]) (rest1 := []) (m2 := 148) (pc2' := 132) (M2 := [(0, .ref 98)]) (rest2 := []) ⟨false, _, _, _, _, _, _, rfl, rfl, rfl, rfl, rfl, rfl, rfl⟩ ⟨false, _, _, _, _, _, _, rfl, rfl, rfl, rfl, rfl, rfl, rfl⟩ hRw25 ?_
      refine pp_step Is24 Is36 (hTL.fr (Fs24.mono rfl) (Fs36.mono rfl)) (Int.le_antisymm (by omega) (by omega)) (Int.le_antisymm (by omega) (by omega)) (Int.le_antisymm (by omega) (by omega)) (by omega) (Or.inr ⟨Int.le_antisymm (by omega) (by omega), Int.le_antisymm (by omega) (by omega)⟩) (fun sq37 tq37 Isq37 Itq37 Gsq37 Gtq37 yq37_0 yq37_1 yq37_2 yq37_3 yq37_4 pcq37 memq37 hRq37 => ?_)
      have Fsq37 := (Gsq37.mono (B := k_pl) rfl).tr Fs24
      have Ftq37 := (Gtq37.mono (B := k_pm) rfl).tr Fs36
      have esq37_6 : sq37 64 1 = σ1 64 1 := (Gsq37 64 1 rfl).trans es24.2.2.2.2.2.2.1
      have esq37_7 : sq37 66 8 = σ1 66 8 := (Gsq37 66 8 rfl).trans es24.2.2.2.2.2.2.2.1
      have esq37_8 : sq37 66 9 = σ1 66 9 := (Gsq37 66 9 rfl).trans es24.2.2.2.2.2.2.2.2.1
      have esq37_9 : sq37 66 10 = σ1 66 10 := (Gsq37 66 10 rfl).trans es24.2.2.2.2.2.2.2.2.2.1
      have esq37_10 : sq37 69 2 = σ1 69 2 := (Gsq37 69 2 rfl).trans es24.2.2.2.2.2.2.2.2.2.2.1
      have esq37_11 : sq37 72 2 = σ1 72 2 := (Gsq37 72 2 rfl).trans es24.2.2.2.2.2.2.2.2.2.2.2.1
      have esq37_12 : sq37 63 5 = 1 := (Gsq37 63 5 rfl).trans es24.2.2.2.2.2.2.2.2.2.2.2.2.1
      have etq37_6 : tq37 98 5 = σ2 98 5 := (Gtq37 98 5 rfl).trans es36.2.2.2.2.2.2.1
      have etq37_7 : tq37 98 6 = σ2 98 6 := (Gtq37 98 6 rfl).trans es36.2.2.2.2.2.2.2.1
      have etq37_8 : tq37 98 7 = 1 := (Gtq37 98 7 rfl).trans es36.2.2.2.2.2.2.2.2.1
      have etq37_9 : tq37 98 8 = σ2 98 8 := (Gtq37 98 8 rfl).trans es36.2.2.2.2.2.2.2.2.2.1
      have etq37_10 : tq37 98 9 = σ2 98 9 := (Gtq37 98 9 rfl).trans es36.2.2.2.2.2.2.2.2.2.2.1
      have etq37_11 : tq37 101 18 = σ2 101 18 := (Gtq37 101 18 rfl).trans es36.2.2.2.2.2.2.2.2.2.2.2.1
      have etq37_12 : tq37 101 25 = σ2 101 25 := (Gtq37 101 25 rfl).trans es36.2.2.2.2.2.2.2.2.2.2.2.2.1
      have etq37_13 : tq37 101 43 = σ2 101 43 := (Gtq37 101 43 rfl).trans es36.2.2.2.2.2.2.2.2.2.2.2.2.2.1
      show h_T g_P (g_Y ns) 154 132 [(0, .ref 98), (1, .int y1)] [] tq37 _
      refine h_aload_n (pc' := 133) rfl rfl rfl ?_
      refine h_getI (pc' := 136) (v := tq37 98 13) rfl rfl rfl rfl rfl rfl (fun z38 hz38 => ?_)
      have tz38 := tf_98_13 Itq37
      refine h_zle (tg := 140) (pc' := 139) rfl rfl rfl hz38 (fun c39 => ?_) (fun c39 => ?_)
      · clear hz38
        refine h_aload_n (pc' := 141) rfl rfl rfl ?_
        refine h_iload_n (pc' := 142) rfl rfl rfl ?_
        refine d_call (g_inj ns) (pc' := 145) (m := 153) (M := [(0, .ref 98), (1, .int y1)]) (rest := []) ⟨false, _, _, _, _, _, _, rfl, rfl, rfl, rfl, rfl, rfl, rfl⟩ (fun lv40 hlv40 => ?_)
        refine h_iload_n (pc' := 1) rfl rfl rfl ?_
        refine h_iconst (pc' := 2) (x := (Int32.ofInt 3)) rfl rfl rfl ?_
        refine h_cgt (tg := 61) (pc' := 5) rfl rfl rfl hy1 ci_3 (fun c41 => ?_) (fun c41 => absurd c41 (by omega))
        refine h_iload_n (pc' := 62) rfl rfl rfl ?_
        refine h_iconst (pc' := 63) (x := (Int32.ofInt 4)) rfl rfl rfl ?_
        refine h_cne (tg := 82) (pc' := 66) rfl rfl rfl hy1 ci_4 (fun c42 => ?_) (fun c42 => absurd c42 (by omega))
        refine h_iload_n (pc' := 83) rfl rfl rfl ?_
        refine h_iconst (pc' := 84) (x := (Int32.ofInt 5)) rfl rfl rfl ?_
        refine h_cne (tg := 103) (pc' := 87) rfl rfl rfl hy1 ci_5 (fun c43 => ?_) (fun c43 => absurd c43 (by omega))
        refine h_iload_n (pc' := 104) rfl rfl rfl ?_
        refine h_bipush (pc' := 106) (x := (Int32.ofInt 6)) rfl rfl cb_6 ?_
        refine h_cne (tg := 174) (pc' := 109) rfl rfl rfl hy1 ci_6 (fun c44 => ?_) (fun c44 => absurd c44 (by omega))
        refine h_aload_n (pc' := 175) rfl rfl rfl ?_
        refine d_call (g_inj ns) (pc' := 178) (m := 152) (M := [(0, .ref 98)]) (rest := []) ⟨false, _, _, _, _, _, _, rfl, rfl, rfl, rfl, rfl, rfl, rfl⟩ (fun lv45 hlv45 => ?_)
        refine d_toL (g_inj ns) hlw25 hRq37 (fun lvw46 memw46 hlw46 hRw46 => ?_)
        show h_T g_P (g_Y ns) 62 28 [(0, .ref 63)] [] sq37 _
        refine h_iconst (pc' := 29) (x := (Int32.ofInt 0)) rfl rfl rfl ?_
        refine h_istore_n (pc' := 30) (M := [(1, .int (Int32.ofInt 0)), (0, .ref 63)]) rfl rfl rfl rfl ?_
        have ga47 := tf_64_2 Isq37
        have ga48 := tf_64_3 Isq37
        have ga49 := tf_63_2 Isq37
        refine h_wk [(0, .ref 63), (1, .int (Int32.ofInt 0))] ⟨rfl, rfl, trivial⟩ (lp_pl Isq37 Itq37 (hTL.fr (Fsq37.mono rfl) (Ftq37.mono rfl)) (fun sq50 tq50 Isq50 Itq50 Gsq50 Gtq50   yq50_0 yq50_1 yq50_2 yq50_3 yq50_4 yq50_5 yq50_6 yq50_7 pcq50 lvq50 memq50 hlq50 hRq50 => ?_) 100000 _ _ Isq37 Itq37 h_F.rf h_F.rf (Int32.ofInt 0) _ ci_0  (Int.le_antisymm (by omega) (by omega)) (Int.le_antisymm (by omega) (by omega)) (Int.le_antisymm (by omega) (by omega)) (by omega) (Int.le_antisymm (by omega) (by omega)) (Int.le_antisymm (by omega) (by omega)) (⟨by omega, by omega⟩) (by omega) (by omega) (fun _ => d_mk (esq37_7) (esq37_8) (esq37_9) (esq37_10) (esq37_11) (esq37_12) (fun j => (Gsq37 67 j rfl).trans ((h_upo us24 rfl j))) (fun j => (Gsq37 68 j rfl).trans ((h_upo us24 rfl j))) (fun j => (Gsq37 70 j rfl).trans ((h_upo us24 rfl j))) (fun j => (Gsq37 71 j rfl).trans ((h_upo us24 rfl j))) (fun j => (Gsq37 73 j rfl).trans ((h_upo us24 rfl j))) (fun j => (Gsq37 74 j rfl).trans ((h_upo us24 rfl j))) (fun j => (Gsq37 75 j rfl).trans ((h_upo us24 rfl j))) (fun j => (Gsq37 76 j rfl).trans ((h_upo us24 rfl j))) (fun j => (Gsq37 77 j rfl).trans ((h_upo us24 rfl j))) (fun j => (Gsq37 78 j rfl).trans ((h_upo us24 rfl j))) (etq37_6) (etq37_7) (etq37_8) (etq37_9) (etq37_10) (fun j => (Gtq37 101 j rfl).trans ((h_upo us36 rfl j))) (r_pt pr10)) (pcq37.elim (fun pcq37 => (by exfalso; omega)) (fun pcq37 => (pcq37.elim (fun pcq37 => (Or.inr (Or.inl ⟨Int.le_antisymm (by omega) (by omega), Int.le_antisymm (by omega) (by omega), Int.le_antisymm (by omega) (by omega), Int.le_antisymm (by omega) (by omega), Int.le_antisymm (by omega) (by omega), Int.le_antisymm (by omega) (by omega)⟩))) (fun pcq37 => (pcq37.elim (fun pcq37 => (Or.inr (Or.inr (Or.inl ⟨Int.le_antisymm (by omega) (by omega), Int.le_antisymm (by omega) (by omega), Int.le_antisymm (by omega) (by omega), Int.le_antisymm (by omega) (by omega), Int.le_antisymm (by omega) (by omega), by omega, by omega⟩)))) (fun pcq37 => (pcq37.elim (fun pcq37 => (Or.inr (Or.inr (Or.inr (Or.inl ⟨Int.le_antisymm (by omega) (by omega), Int.le_antisymm (by omega) (by omega), Int.le_antisymm (by omega) (by omega), Int.le_antisymm (by omega) (by omega), ⟨by omega, by omega⟩, ⟨by omega, by omega⟩, Int.le_antisymm (by omega) (by omega), Int.le_antisymm (by omega) (by omega), by omega, by omega⟩))))) (fun pcq37 => (Or.inr (Or.inr (Or.inr (Or.inr ⟨Int.le_antisymm (by omega) (by omega), Int.le_antisymm (by omega) (by omega), Int.le_antisymm (by omega) (by omega), Int.le_antisymm (by omega) (by omega), Int.le_antisymm (by omega) (by omega), by omega, by omega⟩)))))))))))) (by omega) _ _ (h_al_ok ⟨rfl, trivial⟩ hlw46) hRw46)
        · have Fsq50 := (Gsq50.mono (B := k_pl) rfl).tr Fsq37
          have Ftq50 := (Gtq50.mono (B := k_pm) rfl).tr Ftq37
          have Isq50 := Isq50
          have Itq50 := Itq50
          have Gsq50 := Gsq50
          have Gtq50 := Gtq50
          have esq50_6 : sq50 64 1 = σ1 64 1 := (Gsq50 64 1 rfl).trans esq37_6
          rcases pcq50 with pcq50 | pcq50
          · show h_T g_P (g_Y ns) 62 53 [(0, .ref 63)] [] sq50 _
            refine h_vret rfl rfl (d_retn hlv21 ?_)
            refine h_goto (pc' := 150) rfl rfl ?_
            refine h_aload_n (pc' := 151) rfl rfl rfl ?_
            refine h_getI (pc' := 154) (v := sq50 63 2) rfl rfl rfl rfl rfl rfl (fun z51 hz51 => ?_)
            have tz51 := tf_63_2 Isq50
            refine h_zne (tg := 180) (pc' := 157) rfl rfl rfl hz51 (fun c52 => ?_) (fun c52 => absurd c52 (by omega))
            clear hz51
            refine d_toM (g_inj ns) hlq50 hRq50 (fun lvw53 memw53 hlw53 hRw53 => ?_)
            show h_T g_P (g_Y ns) 152 167 [(0, .ref 98)] [] tq50 _
            refine h_vret rfl rfl (d_retn hlv45 ?_)
            refine h_vret rfl rfl (d_retn hlv40 ?_)
            refine h_aload_n (pc' := 146) rfl rfl rfl ?_
            refine h_getI (pc' := 149) (v := tq50 98 13) rfl rfl rfl rfl rfl rfl (fun z54 hz54 => ?_)
            have tz54 := tf_98_13 Itq50
            refine h_zne (tg := 165) (pc' := 152) rfl rfl rfl hz54 (fun c55 => ?_) (fun c55 => absurd c55 (by omega))
            clear hz54
            refine d_toL (g_inj ns) hlw53 hRw53 (fun lvw56 memw56 hlw56 hRw56 => ?_)
            show h_T g_P (g_Y ns) 56 180 [(0, .ref 63), (1, .int x1)] [] sq50 _
            exact h_wk [(0, .ref 63)] ⟨rfl, trivial⟩ (kx0 _ _ Isq50 Itq50 Fsq50 Ftq50 (Int.le_antisymm (by omega) (by omega)) (Int.le_antisymm (by omega) (by omega)) (Int.le_antisymm (by omega) (by omega)) (by omega) (by omega) (fun h => absurd h (by omega)) (Or.inl ⟨⟨by omega, by omega⟩, ⟨by omega, by omega⟩, Int.le_antisymm (by omega) (by omega), Int.le_antisymm (by omega) (by omega)⟩) _ _ (h_al_ok ⟨rfl, trivial⟩ hlw56) hRw56)
          · show h_T g_P (g_Y ns) 62 53 [(0, .ref 63)] [] sq50 _
            refine h_vret rfl rfl (d_retn hlv21 ?_)
            refine h_goto (pc' := 150) rfl rfl ?_
            refine d_toM (g_inj ns) hlq50 hRq50 (fun lvw57 memw57 hlw57 hRw57 => ?_)
            show h_T g_P (g_Y ns) 152 167 [(0, .ref 98)] [] tq50 _
            refine h_vret rfl rfl (d_retn hlv45 ?_)
            refine h_vret rfl rfl (d_retn hlv40 ?_)
            refine d_toL (g_inj ns) hlw57 hRw57 (fun lvw58 memw58 hlw58 hRw58 => ?_)
            show h_T g_P (g_Y ns) 56 150 [(0, .ref 63), (1, .int x1)] [] sq50 _
            refine h_wk [(0, .ref 63)] ⟨rfl, trivial⟩ (ls_sc Isq50 Itq50 (hTL.fr (Fsq50.mono rfl) (Ftq50.mono rfl))   (Int.le_antisymm (by omega) (by omega)) (Int.le_antisymm (by omega) (by omega)) (Int.le_antisymm (by omega) (by omega)) (by omega) (yq50_5) (pcq50.elim (fun pcq50 => (Or.inl ⟨Int.le_antisymm (by omega) (by omega), Int.le_antisymm (by omega) (by omega), Int.le_antisymm (by omega) (by omega), Int.le_antisymm (by omega) (by omega), Int.le_antisymm (by omega) (by omega)⟩)) (fun pcq50 => (pcq50.elim (fun pcq50 => (Or.inr (Or.inl ⟨Int.le_antisymm (by omega) (by omega), Int.le_antisymm (by omega) (by omega), Int.le_antisymm (by omega) (by omega), Int.le_antisymm (by omega) (by omega), by omega⟩))) (fun pcq50 => (pcq50.elim (fun pcq50 => (Or.inr (Or.inr (Or.inl ⟨Int.le_antisymm (by omega) (by omega), Int.le_antisymm (by omega) (by omega), Int.le_antisymm (by omega) (by omega), Int.le_antisymm (by omega) (by omega), ⟨by omega, by omega⟩, ⟨by omega, by omega⟩, Int.le_antisymm (by omega) (by omega), by omega⟩)))) (fun pcq50 => (Or.inr (Or.inr (Or.inr ⟨Int.le_antisymm (by omega) (by omega), Int.le_antisymm (by omega) (by omega), Int.le_antisymm (by omega) (by omega), Int.le_antisymm (by omega) (by omega), by omega⟩))))))))) (fun sq59 tq59 Isq59 Itq59 Gsq59 Gtq59   yq59_0 yq59_1 yq59_2 yq59_3 yq59_4 yq59_5 pcq59 lvq59 memq59 hlq59 hRq59 => ?_) _ _ (h_al_ok ⟨rfl, trivial⟩ hlw58) hRw58)
            · have Fsq59 := (Gsq59.mono (B := k_pl) rfl).tr Fsq50
              have Ftq59 := (Gtq59.mono (B := k_pm) rfl).tr Ftq50
              have Isq59 := Isq59
              have Itq59 := Itq59
              have Gsq59 := Gsq59
              have Gtq59 := Gtq59
              have esq59_6 : sq59 64 1 = σ1 64 1 := (Gsq59 64 1 rfl).trans esq50_6
              rcases pcq59 with pcq59 | pcq59
              · show h_T g_P (g_Y ns) 56 180 [(0, .ref 63)] [] sq59 _
                refine d_toM (g_inj ns) hlq59 hRq59 (fun lvw60 memw60 hlw60 hRw60 => ?_)
                show h_T g_P (g_Y ns) 154 165 [(0, .ref 98)] [] tq59 _
                refine d_toL (g_inj ns) hlw60 hRw60 (fun lvw61 memw61 hlw61 hRw61 => ?_)
                show h_T g_P (g_Y ns) 56 180 [(0, .ref 63)] [] sq59 _
                exact h_wk [(0, .ref 63)] ⟨rfl, trivial⟩ (kx0 _ _ Isq59 Itq59 Fsq59 Ftq59 (Int.le_antisymm (by omega) (by omega)) (Int.le_antisymm (by omega) (by omega)) (Int.le_antisymm (by omega) (by omega)) (by omega) (by omega) (fun h => absurd h (by omega)) (Or.inl ⟨⟨by omega, by omega⟩, ⟨by omega, by omega⟩, Int.le_antisymm (by omega) (by omega), Int.le_antisymm (by omega) (by omega)⟩) _ _ (h_al_ok ⟨rfl, trivial⟩ hlw61) hRw61)
              · show h_T g_P (g_Y ns) 56 180 [(0, .ref 63)] [] sq59 _
                refine d_toM (g_inj ns) hlq59 hRq59 (fun lvw62 memw62 hlw62 hRw62 => ?_)
                show h_T g_P (g_Y ns) 154 165 [(0, .ref 98)] [] tq59 _
                refine d_toL (g_inj ns) hlw62 hRw62 (fun lvw63 memw63 hlw63 hRw63 => ?_)
                show h_T g_P (g_Y ns) 56 180 [(0, .ref 63)] [] sq59 _
                exact h_wk [(0, .ref 63)] ⟨rfl, trivial⟩ (kx0 _ _ Isq59 Itq59 Fsq59 Ftq59 (Int.le_antisymm (by omega) (by omega)) (Int.le_antisymm (by omega) (by omega)) (Int.le_antisymm (by omega) (by omega)) (by omega) (by omega) (yq59_5) (Or.inr ⟨Int.le_antisymm (by omega) (by omega), Int.le_antisymm (by omega) (by omega), Int.le_antisymm (by omega) (by omega), Int.le_antisymm (by omega) (by omega), by omega, by omega⟩) _ _ (h_al_ok ⟨rfl, trivial⟩ hlw63) hRw63)
      · clear hz38
        refine d_toL (g_inj ns) hlw25 hRq37 (fun lvw64 memw64 hlw64 hRw64 => ?_)
        show h_T g_P (g_Y ns) 62 28 [(0, .ref 63)] [] sq37 _
        refine h_iconst (pc' := 29) (x := (Int32.ofInt 0)) rfl rfl rfl ?_
        refine h_istore_n (pc' := 30) (M := [(1, .int (Int32.ofInt 0)), (0, .ref 63)]) rfl rfl rfl rfl ?_
        refine h_iload_n (pc' := 31) rfl rfl rfl ?_
        refine h_bipush (pc' := 33) (x := (Int32.ofInt 8)) rfl rfl cb_8 ?_
        refine h_cgt (tg := 53) (pc' := 36) rfl rfl rfl ci_0 ci_8 (fun c65 => absurd c65 (by omega)) (fun c65 => ?_)
        refine h_aload_n (pc' := 37) rfl rfl rfl ?_
        refine h_call (sp := false) (pc' := 40) (M := [(0, .ref 63)]) rfl rfl rfl rfl rfl rfl rfl rfl ?_
        refine h_aload_n (pc' := 1) rfl rfl rfl ?_
        refine h_getI (pc' := 4) (v := sq37 63 2) rfl rfl rfl rfl rfl rfl (fun z66 hz66 => ?_)
        have tz66 := tf_63_2 Isq37
        refine h_zne (tg := 22) (pc' := 7) rfl rfl rfl hz66 (fun c67 => ?_) (fun c67 => absurd c67 (by omega))
        clear hz66
        refine h_iconst (pc' := 23) (x := (Int32.ofInt 0)) rfl rfl rfl ?_
        refine h_zret rfl rfl ci_0 (by omega) (h_Kv ?_)
        refine h_zeq (tg := 53) (pc' := 43) rfl rfl rfl ci_0 (fun c68 => ?_) (fun c68 => absurd (Int.le_antisymm (by omega) (by omega)) c68)
        refine h_vret rfl rfl (d_retn hlv21 ?_)
        refine h_goto (pc' := 150) rfl rfl ?_
        refine h_aload_n (pc' := 151) rfl rfl rfl ?_
        refine h_getI (pc' := 154) (v := sq37 63 2) rfl rfl rfl rfl rfl rfl (fun z69 hz69 => ?_)
        refine h_zne (tg := 180) (pc' := 157) rfl rfl rfl hz69 (fun c70 => ?_) (fun c70 => absurd c70 (by omega))
        clear hz69
        exact h_wk [(0, .ref 63)] ⟨rfl, trivial⟩ (kx1 _ _ Isq37 Itq37 Fsq37 Ftq37 (Int.le_antisymm (by omega) (by omega)) (Int.le_antisymm (by omega) (by omega)) (Int.le_antisymm (by omega) (by omega)) (by omega) (by omega) (pcq37.elim (fun pcq37 => ⟨⟨by omega, by omega⟩, ⟨by omega, by omega⟩, Int.le_antisymm (by omega) (by omega), Int.le_antisymm (by omega) (by omega)⟩) (fun pcq37 => (pcq37.elim (fun pcq37 => (by exfalso; omega)) (fun pcq37 => (pcq37.elim (fun pcq37 => (by exfalso; omega)) (fun pcq37 => (pcq37.elim (fun pcq37 => (by exfalso; omega)) (fun pcq37 => (by exfalso; omega))))))))) _ _ (h_al_ok ⟨rfl, trivial⟩ hlw64) hRw64)
    · clear hz22
      refine h_aload_n (pc' := 8) rfl rfl rfl ?_
      refine h_iconst (pc' := 9) (x := (Int32.ofInt 4)) rfl rfl rfl ?_
      refine h_aload_n (pc' := 10) rfl rfl rfl ?_
      refine h_getR (pc' := 13) rfl rfl rfl rfl rfl ?_
      refine h_getI (pc' := 16) (v := σ1 64 4) rfl rfl rfl rfl rfl rfl (fun z71 hz71 => ?_)
      have tz71 := tf_64_4 hI1
      refine h_call (sp := false) (pc' := 19) (M := [(0, .ref 63), (1, .int (Int32.ofInt 4)), (2, .int z71)]) rfl rfl rfl rfl rfl rfl rfl rfl ?_
      refine h_aload_n (pc' := 1) rfl rfl rfl ?_
      refine h_getI (pc' := 4) (v := σ1 63 2) rfl rfl rfl rfl rfl rfl (fun z72 hz72 => ?_)
      have tz72 := tf_63_2 hI1
      refine h_zne (tg := 17) (pc' := 7) rfl rfl rfl hz72 (fun c73 => absurd (Int.le_antisymm (by omega) (by omega)) c73) (fun c73 => ?_)
      clear hz72
      refine h_aload_n (pc' := 8) rfl rfl rfl ?_
      refine h_iload_n (pc' := 9) rfl rfl rfl ?_
      refine h_put (pc' := 12) rfl rfl rfl rfl rfl rfl ci_4 rfl (h_fgt (E := fun s => s 64 2 = σ1 64 2 ∧ s 64 4 = σ1 64 4 ∧ s 64 3 = σ1 64 3 ∧ s 64 5 = σ1 64 5 ∧ s 63 2 = 4 ∧ s 63 3 = σ1 63 3 ∧ s 64 1 = σ1 64 1 ∧ s 66 8 = σ1 66 8 ∧ s 66 9 = σ1 66 9 ∧ s 66 10 = σ1 66 10 ∧ s 69 2 = σ1 69 2 ∧ s 72 2 = σ1 72 2 ∧ s 63 5 = σ1 63 5 ∧ s = h_up σ1 63 2 4) _ (if_63_2 hI1 (by omega)) (F1.up rfl) ⟨rfl, rfl, rfl, rfl, rfl, rfl, rfl, rfl, rfl, rfl, rfl, rfl, rfl, rfl⟩ (fun s74 Is74 Fs74 (es74 : s74 64 2 = σ1 64 2 ∧ s74 64 4 = σ1 64 4 ∧ s74 64 3 = σ1 64 3 ∧ s74 64 5 = σ1 64 5 ∧ s74 63 2 = 4 ∧ s74 63 3 = σ1 63 3 ∧ s74 64 1 = σ1 64 1 ∧ s74 66 8 = σ1 66 8 ∧ s74 66 9 = σ1 66 9 ∧ s74 66 10 = σ1 66 10 ∧ s74 69 2 = σ1 69 2 ∧ s74 72 2 = σ1 72 2 ∧ s74 63 5 = σ1 63 5 ∧ s74 = h_up σ1 63 2 4) => ?_))
      have us74 := es74.2.2.2.2.2.2.2.2.2.2.2.2.2
      refine h_aload_n (pc' := 13) rfl rfl rfl ?_
      refine h_iload_n (pc' := 14) rfl rfl rfl ?_
      refine h_put (pc' := 17) rfl rfl rfl rfl rfl rfl hz71 rfl (h_fgt (E := fun s => s 64 2 = σ1 64 2 ∧ s 64 4 = σ1 64 4 ∧ s 64 3 = σ1 64 3 ∧ s 64 5 = σ1 64 5 ∧ s 63 2 = 4 ∧ s 63 3 = (σ1 64 4) ∧ s 64 1 = σ1 64 1 ∧ s 66 8 = σ1 66 8 ∧ s 66 9 = σ1 66 9 ∧ s 66 10 = σ1 66 10 ∧ s 69 2 = σ1 69 2 ∧ s 72 2 = σ1 72 2 ∧ s 63 5 = σ1 63 5 ∧ s = h_up s74 63 3 (σ1 64 4)) _ (if_63_3 Is74 (h_rgv hz71)) (Fs74.up rfl) ⟨es74.1, es74.2.1, es74.2.2.1, es74.2.2.2.1, es74.2.2.2.2.1, rfl, es74.2.2.2.2.2.2.1, es74.2.2.2.2.2.2.2.1, es74.2.2.2.2.2.2.2.2.1, es74.2.2.2.2.2.2.2.2.2.1, es74.2.2.2.2.2.2.2.2.2.2.1, es74.2.2.2.2.2.2.2.2.2.2.2.1, es74.2.2.2.2.2.2.2.2.2.2.2.2.1, rfl⟩ (fun s75 Is75 Fs75 (es75 : s75 64 2 = σ1 64 2 ∧ s75 64 4 = σ1 64 4 ∧ s75 64 3 = σ1 64 3 ∧ s75 64 5 = σ1 64 5 ∧ s75 63 2 = 4 ∧ s75 63 3 = (σ1 64 4) ∧ s75 64 1 = σ1 64 1 ∧ s75 66 8 = σ1 66 8 ∧ s75 66 9 = σ1 66 9 ∧ s75 66 10 = σ1 66 10 ∧ s75 69 2 = σ1 69 2 ∧ s75 72 2 = σ1 72 2 ∧ s75 63 5 = σ1 63 5 ∧ s75 = h_up s74 63 3 (σ1 64 4)) => ?_))
      clear es74
      have us75 := es75.2.2.2.2.2.2.2.2.2.2.2.2.2
      refine h_vret rfl rfl (h_Kn ?_)
      refine h_aload_n (pc' := 20) rfl rfl rfl ?_
      refine h_iconst (pc' := 21) (x := (Int32.ofInt 1)) rfl rfl rfl ?_
      refine h_put (pc' := 24) rfl rfl rfl rfl rfl rfl ci_1 (h_fb ci_1 (by omega)) (h_fgt (E := fun s => s 64 2 = σ1 64 2 ∧ s 64 4 = σ1 64 4 ∧ s 64 3 = σ1 64 3 ∧ s 64 5 = σ1 64 5 ∧ s 63 2 = 4 ∧ s 63 3 = (σ1 64 4) ∧ s 64 1 = σ1 64 1 ∧ s 66 8 = σ1 66 8 ∧ s 66 9 = σ1 66 9 ∧ s 66 10 = σ1 66 10 ∧ s 69 2 = σ1 69 2 ∧ s 72 2 = σ1 72 2 ∧ s 63 5 = 1 ∧ s = h_up s75 63 5 1) _ (if_63_5 Is75 (by omega)) (Fs75.up rfl) ⟨es75.1, es75.2.1, es75.2.2.1, es75.2.2.2.1, es75.2.2.2.2.1, es75.2.2.2.2.2.1, es75.2.2.2.2.2.2.1, es75.2.2.2.2.2.2.2.1, es75.2.2.2.2.2.2.2.2.1, es75.2.2.2.2.2.2.2.2.2.1, es75.2.2.2.2.2.2.2.2.2.2.1, es75.2.2.2.2.2.2.2.2.2.2.2.1, rfl, rfl⟩ (fun s76 Is76 Fs76 (es76 : s76 64 2 = σ1 64 2 ∧ s76 64 4 = σ1 64 4 ∧ s76 64 3 = σ1 64 3 ∧ s76 64 5 = σ1 64 5 ∧ s76 63 2 = 4 ∧ s76 63 3 = (σ1 64 4) ∧ s76 64 1 = σ1 64 1 ∧ s76 66 8 = σ1 66 8 ∧ s76 66 9 = σ1 66 9 ∧ s76 66 10 = σ1 66 10 ∧ s76 69 2 = σ1 69 2 ∧ s76 72 2 = σ1 72 2 ∧ s76 63 5 = 1 ∧ s76 = h_up s75 63 5 1) => ?_))
      clear es75
      have us76 := es76.2.2.2.2.2.2.2.2.2.2.2.2.2
      refine h_aload_n (pc' := 25) rfl rfl rfl ?_
      refine h_call (sp := false) (pc' := 28) (M := [(0, .ref 63)]) rfl rfl rfl rfl rfl rfl rfl rfl ?_
      refine h_aload_n (pc' := 1) rfl rfl rfl ?_
      refine h_getI (pc' := 4) (v := 4) rfl rfl rfl rfl rfl es76.2.2.2.2.1 (fun z77 hz77 => ?_)
      refine h_zne (tg := 37) (pc' := 7) rfl rfl rfl hz77 (fun c78 => ?_) (fun c78 => absurd c78 (by omega))
      clear hz77
      refine h_vret rfl rfl (h_Kn ?_)
      refine h_iconst (pc' := 29) (x := (Int32.ofInt 0)) rfl rfl rfl ?_
      refine h_istore_n (pc' := 30) (M := [(1, .int (Int32.ofInt 0)), (0, .ref 63)]) rfl rfl rfl rfl ?_
      refine h_iload_n (pc' := 31) rfl rfl rfl ?_
      refine h_bipush (pc' := 33) (x := (Int32.ofInt 8)) rfl rfl cb_8 ?_
      refine h_cgt (tg := 53) (pc' := 36) rfl rfl rfl ci_0 ci_8 (fun c79 => absurd c79 (by omega)) (fun c79 => ?_)
      refine h_aload_n (pc' := 37) rfl rfl rfl ?_
      refine h_call (sp := false) (pc' := 40) (M := [(0, .ref 63)]) rfl rfl rfl rfl rfl rfl rfl rfl ?_
      refine h_aload_n (pc' := 1) rfl rfl rfl ?_
      refine h_getI (pc' := 4) (v := 4) rfl rfl rfl rfl rfl es76.2.2.2.2.1 (fun z80 hz80 => ?_)
      refine h_zne (tg := 22) (pc' := 7) rfl rfl rfl hz80 (fun c81 => ?_) (fun c81 => absurd c81 (by omega))
      clear hz80
      refine h_iconst (pc' := 23) (x := (Int32.ofInt 0)) rfl rfl rfl ?_
      refine h_zret rfl rfl ci_0 (by omega) (h_Kv ?_)
      refine h_zeq (tg := 53) (pc' := 43) rfl rfl rfl ci_0 (fun c82 => ?_) (fun c82 => absurd (Int.le_antisymm (by omega) (by omega)) c82)
      refine h_vret rfl rfl (d_retn hlv21 ?_)
      refine h_goto (pc' := 150) rfl rfl ?_
      refine h_aload_n (pc' := 151) rfl rfl rfl ?_
      refine h_getI (pc' := 154) (v := 4) rfl rfl rfl rfl rfl es76.2.2.2.2.1 (fun z83 hz83 => ?_)
      refine h_zne (tg := 180) (pc' := 157) rfl rfl rfl hz83 (fun c84 => ?_) (fun c84 => absurd c84 (by omega))
      clear hz83
      refine d_toM (g_inj ns) hl2 hR2 (fun lvw85 memw85 hlw85 hRw85 => ?_)
      show h_T g_P (g_Y ns) 154 23 [(0, .ref 98), (1, .int y1)] [] σ2 _
      refine h_iload_n (pc' := 24) rfl rfl rfl ?_
      refine h_iconst (pc' := 25) (x := (Int32.ofInt 3)) rfl rfl rfl ?_
      refine h_cgt (tg := 37) (pc' := 28) rfl rfl rfl hy1 ci_3 (fun c86 => ?_) (fun c86 => absurd c86 (by omega))
      refine h_iload_n (pc' := 38) rfl rfl rfl ?_
      refine h_iconst (pc' := 39) (x := (Int32.ofInt 4)) rfl rfl rfl ?_
      refine h_cne (tg := 53) (pc' := 42) rfl rfl rfl hy1 ci_4 (fun c87 => ?_) (fun c87 => absurd c87 (by omega))
      refine h_iload_n (pc' := 54) rfl rfl rfl ?_
      refine h_iconst (pc' := 55) (x := (Int32.ofInt 5)) rfl rfl rfl ?_
      refine h_cne (tg := 69) (pc' := 58) rfl rfl rfl hy1 ci_5 (fun c88 => ?_) (fun c88 => absurd c88 (by omega))
      refine h_iload_n (pc' := 70) rfl rfl rfl ?_
      refine h_bipush (pc' := 72) (x := (Int32.ofInt 6)) rfl rfl cb_6 ?_
      refine h_cne (tg := 88) (pc' := 75) rfl rfl rfl hy1 ci_6 (fun c89 => ?_) (fun c89 => absurd c89 (by omega))
      refine h_iload_n (pc' := 89) rfl rfl rfl ?_
      refine h_bipush (pc' := 91) (x := (Int32.ofInt 7)) rfl rfl cb_7 ?_
      refine h_cne (tg := 106) (pc' := 94) rfl rfl rfl hy1 ci_7 (fun c90 => absurd (Int.le_antisymm (by omega) (by omega)) c90) (fun c90 => ?_)
      refine h_aload_n (pc' := 95) rfl rfl rfl ?_
      refine h_getI (pc' := 98) (v := σ2 98 7) rfl rfl rfl rfl rfl rfl (fun z91 hz91 => ?_)
      have tz91 := tf_98_7 hI2
      refine h_zeq (tg := 106) (pc' := 101) rfl rfl rfl hz91 (fun c92 => absurd c92 (by omega)) (fun c92 => ?_)
      clear hz91
      refine h_aload_n (pc' := 102) rfl rfl rfl ?_
      refine h_iconst (pc' := 103) (x := (Int32.ofInt 4)) rfl rfl rfl ?_
      refine h_call (sp := false) (pc' := 106) (M := [(0, .ref 98), (1, .int (Int32.ofInt 4))]) rfl rfl rfl rfl rfl rfl rfl rfl ?_
      refine h_aload_n (pc' := 1) rfl rfl rfl ?_
      refine h_getI (pc' := 4) (v := σ2 98 13) rfl rfl rfl rfl rfl rfl (fun z93 hz93 => ?_)
      have tz93 := tf_98_13 hI2
      refine h_zne (tg := 20) (pc' := 7) rfl rfl rfl hz93 (fun c94 => absurd (Int.le_antisymm (by omega) (by omega)) c94) (fun c94 => ?_)
      clear hz93
      refine h_aload_n (pc' := 8) rfl rfl rfl ?_
      refine h_iload_n (pc' := 9) rfl rfl rfl ?_
      refine h_put (pc' := 12) rfl rfl rfl rfl rfl rfl ci_4 rfl (h_fgt (E := fun s => s 98 15 = σ2 98 15 ∧ s 98 16 = σ2 98 16 ∧ s 98 17 = σ2 98 17 ∧ s 98 18 = σ2 98 18 ∧ s 98 13 = 4 ∧ s 98 14 = σ2 98 14 ∧ s 98 5 = σ2 98 5 ∧ s 98 6 = σ2 98 6 ∧ s 98 7 = σ2 98 7 ∧ s 98 8 = σ2 98 8 ∧ s 98 9 = σ2 98 9 ∧ s 101 18 = σ2 101 18 ∧ s 101 25 = σ2 101 25 ∧ s 101 43 = σ2 101 43 ∧ s = h_up σ2 98 13 4) _ (if_98_13 hI2 (by omega)) (F2.up rfl) ⟨rfl, rfl, rfl, rfl, rfl, rfl, rfl, rfl, rfl, rfl, rfl, rfl, rfl, rfl, rfl⟩ (fun s95 Is95 Fs95 (es95 : s95 98 15 = σ2 98 15 ∧ s95 98 16 = σ2 98 16 ∧ s95 98 17 = σ2 98 17 ∧ s95 98 18 = σ2 98 18 ∧ s95 98 13 = 4 ∧ s95 98 14 = σ2 98 14 ∧ s95 98 5 = σ2 98 5 ∧ s95 98 6 = σ2 98 6 ∧ s95 98 7 = σ2 98 7 ∧ s95 98 8 = σ2 98 8 ∧ s95 98 9 = σ2 98 9 ∧ s95 101 18 = σ2 101 18 ∧ s95 101 25 = σ2 101 25 ∧ s95 101 43 = σ2 101 43 ∧ s95 = h_up σ2 98 13 4) => ?_))
      have us95 := es95.2.2.2.2.2.2.2.2.2.2.2.2.2.2
      refine h_aload_n (pc' := 13) rfl rfl rfl ?_
      refine h_aload_n (pc' := 14) rfl rfl rfl ?_
      refine h_getI (pc' := 17) (v := σ2 98 16) rfl rfl rfl rfl rfl es95.2.1 (fun z96 hz96 => ?_)
      have tz96 := tf_98_16 hI2
      refine h_put (pc' := 20) rfl rfl rfl rfl rfl rfl hz96 rfl (h_fgt (E := fun s => s 98 15 = σ2 98 15 ∧ s 98 16 = σ2 98 16 ∧ s 98 17 = σ2 98 17 ∧ s 98 18 = σ2 98 18 ∧ s 98 13 = 4 ∧ s 98 14 = (σ2 98 16) ∧ s 98 5 = σ2 98 5 ∧ s 98 6 = σ2 98 6 ∧ s 98 7 = σ2 98 7 ∧ s 98 8 = σ2 98 8 ∧ s 98 9 = σ2 98 9 ∧ s 101 18 = σ2 101 18 ∧ s 101 25 = σ2 101 25 ∧ s 101 43 = σ2 101 43 ∧ s = h_up s95 98 14 (σ2 98 16)) _ (if_98_14 Is95 (h_rgv hz96)) (Fs95.up rfl) ⟨es95.1, es95.2.1, es95.2.2.1, es95.2.2.2.1, es95.2.2.2.2.1, rfl, es95.2.2.2.2.2.2.1, es95.2.2.2.2.2.2.2.1, es95.2.2.2.2.2.2.2.2.1, es95.2.2.2.2.2.2.2.2.2.1, es95.2.2.2.2.2.2.2.2.2.2.1, es95.2.2.2.2.2.2.2.2.2.2.2.1, es95.2.2.2.2.2.2.2.2.2.2.2.2.1, es95.2.2.2.2.2.2.2.2.2.2.2.2.2.1, rfl⟩ (fun s97 Is97 Fs97 (es97 : s97 98 15 = σ2 98 15 ∧ s97 98 16 = σ2 98 16 ∧ s97 98 17 = σ2 98 17 ∧ s97 98 18 = σ2 98 18 ∧ s97 98 13 = 4 ∧ s97 98 14 = (σ2 98 16) ∧ s97 98 5 = σ2 98 5 ∧ s97 98 6 = σ2 98 6 ∧ s97 98 7 = σ2 98 7 ∧ s97 98 8 = σ2 98 8 ∧ s97 98 9 = σ2 98 9 ∧ s97 101 18 = σ2 101 18 ∧ s97 101 25 = σ2 101 25 ∧ s97 101 43 = σ2 101 43 ∧ s97 = h_up s95 98 14 (σ2 98 16)) => ?_))
      clear es95
      have us97 := es97.2.2.2.2.2.2.2.2.2.2.2.2.2.2
      refine h_vret rfl rfl (h_Kn ?_)
      refine h_aload_n (pc' := 107) rfl rfl rfl ?_
      refine h_aload_n (pc' := 108) rfl rfl rfl ?_
      refine h_getI (pc' := 111) (v := σ2 98 7) rfl rfl rfl rfl rfl es97.2.2.2.2.2.2.2.2.1 (fun z98 hz98 => ?_)
      refine h_zne (tg := 120) (pc' := 114) rfl rfl rfl hz98 (fun c99 => ?_) (fun c99 => absurd c99 (by omega))
      clear hz98
      refine h_iconst (pc' := 121) (x := (Int32.ofInt 1)) rfl rfl rfl ?_
      refine h_goto (pc' := 125) rfl rfl ?_
      refine h_put (pc' := 128) rfl rfl rfl rfl rfl rfl ci_1 (h_fb ci_1 (by omega)) (h_fgt (E := fun s => s 98 15 = σ2 98 15 ∧ s 98 16 = σ2 98 16 ∧ s 98 17 = σ2 98 17 ∧ s 98 18 = σ2 98 18 ∧ s 98 13 = 4 ∧ s 98 14 = (σ2 98 16) ∧ s 98 5 = σ2 98 5 ∧ s 98 6 = σ2 98 6 ∧ s 98 7 = 1 ∧ s 98 8 = σ2 98 8 ∧ s 98 9 = σ2 98 9 ∧ s 101 18 = σ2 101 18 ∧ s 101 25 = σ2 101 25 ∧ s 101 43 = σ2 101 43 ∧ s = h_up s97 98 7 1) _ (if_98_7 Is97 (by omega)) (Fs97.up rfl) ⟨es97.1, es97.2.1, es97.2.2.1, es97.2.2.2.1, es97.2.2.2.2.1, es97.2.2.2.2.2.1, es97.2.2.2.2.2.2.1, es97.2.2.2.2.2.2.2.1, rfl, es97.2.2.2.2.2.2.2.2.2.1, es97.2.2.2.2.2.2.2.2.2.2.1, es97.2.2.2.2.2.2.2.2.2.2.2.1, es97.2.2.2.2.2.2.2.2.2.2.2.2.1, es97.2.2.2.2.2.2.2.2.2.2.2.2.2.1, rfl⟩ (fun s100 Is100 Fs100 (es100 : s100 98 15 = σ2 98 15 ∧ s100 98 16 = σ2 98 16 ∧ s100 98 17 = σ2 98 17 ∧ s100 98 18 = σ2 98 18 ∧ s100 98 13 = 4 ∧ s100 98 14 = (σ2 98 16) ∧ s100 98 5 = σ2 98 5 ∧ s100 98 6 = σ2 98 6 ∧ s100 98 7 = 1 ∧ s100 98 8 = σ2 98 8 ∧ s100 98 9 = σ2 98 9 ∧ s100 101 18 = σ2 101 18 ∧ s100 101 25 = σ2 101 25 ∧ s100 101 43 = σ2 101 43 ∧ s100 = h_up s97 98 7 1) => ?_))
      clear es97
      have us100 := es100.2.2.2.2.2.2.2.2.2.2.2.2.2.2
      refine h_aload_n (pc' := 129) rfl rfl rfl ?_
      refine h_call (sp := false) (pc' := 132) (M := [(0, .ref 98)]) rfl rfl rfl rfl rfl rfl rfl rfl ?_
      refine h_aload_n (pc' := 1) rfl rfl rfl ?_
      refine h_getI (pc' := 4) (v := 4) rfl rfl rfl rfl rfl es100.2.2.2.2.1 (fun z101 hz101 => ?_)
      refine h_zle (tg := 8) (pc' := 7) rfl rfl rfl hz101 (fun c102 => absurd c102 (by omega)) (fun c102 => ?_)
      clear hz101
      refine h_vret rfl rfl (h_Kn ?_)
      refine h_aload_n (pc' := 133) rfl rfl rfl ?_
      refine h_getI (pc' := 136) (v := 4) rfl rfl rfl rfl rfl es100.2.2.2.2.1 (fun z103 hz103 => ?_)
      refine h_zle (tg := 140) (pc' := 139) rfl rfl rfl hz103 (fun c104 => absurd c104 (by omega)) (fun c104 => ?_)
      clear hz103
      refine d_toL (g_inj ns) hlw85 hRw85 (fun lvw105 memw105 hlw105 hRw105 => ?_)
      show h_T g_P (g_Y ns) 56 180 [(0, .ref 63), (1, .int x1)] [] s76 _
      exact h_wk [(0, .ref 63)] ⟨rfl, trivial⟩ (kx1 _ _ Is76 Is100 Fs76 Fs100 (Int.le_antisymm (by omega) (by omega)) (Int.le_antisymm (by omega) (by omega)) (Int.le_antisymm (by omega) (by omega)) (by omega) (by omega) ⟨⟨by omega, by omega⟩, ⟨by omega, by omega⟩, Int.le_antisymm (by omega) (by omega), Int.le_antisymm (by omega) (by omega)⟩ _ _ (h_al_ok ⟨rfl, trivial⟩ hlw105) hRw105)
