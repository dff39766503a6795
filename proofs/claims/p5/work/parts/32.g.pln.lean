set_option maxHeartbeats 100000000 in
theorem ls_pln {ns : Nat} {σ1 σ2 : h_S} (hI1 : h_I σ1) (hI2 : h_I σ2) (hTL : d_tape σ1 σ2) (x1 : Int32) (a1 : Int) (hx1 : x1.toInt = a1) (y1 : Int32) (c1 : Int) (hy1 : y1.toInt = c1) (pr0 : σ1 64 2 = σ2 98 15) (pr1 : σ1 64 4 = σ2 98 16) (pr2 : σ1 63 2 = σ2 98 13) (pr3 : σ1 66 8 = σ2 98 5) (pr4 : σ1 66 9 = σ2 98 6) (pr5 : σ1 66 10 = σ2 101 43) (pr6 : σ1 69 2 = σ2 101 18) (pr7 : σ1 72 2 = σ2 101 25) (pr8 : σ1 63 5 = σ2 98 7) (pr9 : σ1 64 2 ≤ σ1 64 1) (pr10 : d_RD σ1 σ2) (pr11 : a1 = c1) (pr12 : a1 = 7) (pc0 : ((σ1 63 2 = 0) ∧ (σ2 98 13 = 0))) {cs1 cs2 : List d_Fr} {Q : d_Q} (kx0 : ∀ (s t : h_S), h_I s → h_I t → h_F (k_in k_pl) s σ1 → h_F (k_in k_pm) t σ2 → (s 64 2 = t 98 15) → (s 64 4 = t 98 16) → (s 63 2 = t 98 13) → (s 64 2 ≤ s 64 1) → (σ1 64 2 ≤ s 64 2) → (d_ok s t) → (((1 ≤ s 63 2 ∧ s 63 2 ≤ 6) ∧ (1 ≤ t 98 13 ∧ t 98 13 ≤ 6) ∧ (s 63 2 = t 98 13) ∧ (s 63 3 = t 98 14)) ∨ ((s 63 2 = 0) ∧ (s 64 3 = 3) ∧ (t 98 13 = 0) ∧ (t 98 17 = 3) ∧ (s 64 4 < s 64 2) ∧ (σ1 64 2 < s 64 2))) → ∀ lv2 mem2, h_loc [(0, .ref 98)] lv2 → h_R (g_Y ns) t mem2 → h_T g_P (g_Y ns) 56 180 [(0, .ref 63)] [] s (d_cs g_P (g_Y ns) cs1 (d_L g_P (g_Y ns) (154, 165, lv2, []) cs2 mem2 Q))) (kx1 : ∀ (s t : h_S), h_I s → h_I t → h_F (k_in k_pl) s σ1 → h_F (k_in k_pm) t σ2 → (s 64 2 = t 98 15) → (s 64 4 = t 98 16) → (s 63 2 = t 98 13) → (s 64 2 ≤ s 64 1) → (σ1 64 2 ≤ s 64 2) → (((1 ≤ s 63 2 ∧ s 63 2 ≤ 6) ∧ (1 ≤ t 98 13 ∧ t 98 13 ≤ 6) ∧ (s 63 2 = t 98 13) ∧ (s 63 3 = t 98 14))) → ∀ lv2 mem2, h_loc [(0, .ref 98)] lv2 → h_R (g_Y ns) t mem2 → h_T g_P (g_Y ns) 56 180 [(0, .ref 63)] [] s (d_cs g_P (g_Y ns) cs1 (d_L g_P (g_Y ns) (154, 139, lv2, []) cs2 mem2 Q))) : ∀ lv2 mem2, h_loc [(0, .ref 98), (1, .int y1)] lv2 → h_R (g_Y ns) σ2 mem2 → h_T g_P (g_Y ns) 56 123 [(0, .ref 63), (1, .int x1)] [] σ1 (d_cs g_P (g_Y ns) cs1 (d_L g_P (g_Y ns) (154, 23, lv2, []) cs2 mem2 Q)) := by
  intro lv2 mem2 hl2 hR2
  have hT := hTL.1
  have hL := hTL.2
  have F1 : h_F (k_in k_pl) σ1 σ1 := h_F.rf
  have F2 : h_F (k_in k_pm) σ2 σ2 := h_F.rf
  have ge0 := tf_64_1 hI1
  have ge1 := tf_66_8 hI1
  have ge2 := tf_66_9 hI1
  have ge3 := tf_66_10 hI1
  have ge4 := tf_69_2 hI1
  have ge5 := tf_72_2 hI1
  have ge6 := tf_63_5 hI1
  have ge7 := tf_63_2 hI1
  have ge8 := tf_98_8 hI2
  have ge9 := tf_98_9 hI2
  have ge10 := tf_98_13 hI2
  rcases pc0 with pc0
  · show h_T g_P (g_Y ns) 56 123 [(0, .ref 63), (1, .int x1)] [] σ1 _
    refine h_aload_n (pc' := 124) rfl rfl rfl ?_
    refine d_call (g_inj ns) (pc' := 127) (m := 62) (M := [(0, .ref 63)]) (rest := []) ⟨false, _, _, _, _, _, _, rfl, rfl, rfl, rfl, rfl, rfl, rfl⟩ (fun lv21 hlv21 => ?_)
    refine h_aload_n (pc' := 1) rfl rfl rfl ?_
    refine h_getI (pc' := 4) (v := σ1 63 5) rfl rfl rfl rfl rfl rfl (fun z22 hz22 => ?_)
    have tz22 := tf_63_5 hI1
    refine h_zeq (tg := 19) (pc' := 7) rfl rfl rfl hz22 (fun c23 => ?_) (fun c23 => ?_)
    · clear hz22
      refine h_aload_n (pc' := 20) rfl rfl rfl ?_
      refine h_iconst (pc' := 21) (x := (Int32.ofInt 1)) rfl rfl rfl ?_
      refine h_put (pc' := 24) rfl rfl rfl rfl rfl rfl ci_1 (h_fb ci_1 (by omega)) (h_fgt (E := fun s => s 64 2 = σ1 64 2 ∧ s 64 4 = σ1 64 4 ∧ s 64 3 = σ1 64 3 ∧ s 64 5 = σ1 64 5 ∧ s 63 2 = σ1 63 2 ∧ s 63 3 = σ1 63 3 ∧ s 64 1 = σ1 64 1 ∧ s 66 8 = σ1 66 8 ∧ s 66 9 = σ1 66 9 ∧ s 66 10 = σ1 66 10 ∧ s 69 2 = σ1 69 2 ∧ s 72 2 = σ1 72 2 ∧ s 63 5 = 1 ∧ s = h_up σ1 63 5 1) _ (if_63_5 hI1 (by omega)) (F1.up rfl) ⟨rfl, rfl, rfl, rfl, rfl, rfl, rfl, rfl, rfl, rfl, rfl, rfl, rfl, rfl⟩ (fun s24 Is24 Fs24 (es24 : s24 64 2 = σ1 64 2 ∧ s24 64 4 = σ1 64 4 ∧ s24 64 3 = σ1 64 3 ∧ s24 64 5 = σ1 64 5 ∧ s24 63 2 = σ1 63 2 ∧ s24 63 3 = σ1 63 3 ∧ s24 64 1 = σ1 64 1 ∧ s24 66 8 = σ1 66 8 ∧ s24 66 9 = σ1 66 9 ∧ s24 66 10 = σ1 66 10 ∧ s24 69 2 = σ1 69 2 ∧ s24 72 2 = σ1 72 2 ∧ s24 63 5 = 1 ∧ s24 = h_up σ1 63 5 1) => ?_))
      have us24 := es24.2.2.2.2.2.2.2.2.2.2.2.2.2
      refine h_aload_n (pc' := 25) rfl rfl rfl ?_
      refine d_toM (g_inj ns) hl2 hR2 (fun lvw25 memw25 hlw25 hRw25 => ?_)
      show h_T g_P (g_Y ns) 154 23 [(0, .ref 98), (1, .int y1)] [] σ2 _
      refine h_iload_n (pc' := 24) rfl rfl rfl ?_
      refine h_iconst (pc' := 25) (x := (Int32.ofInt 3)) rfl rfl rfl ?_
      refine h_cgt (tg := 37) (pc' := 28) rfl rfl rfl hy1 ci_3 (fun c26 => ?_) (fun c26 => absurd c26 (by omega))
      refine h_iload_n (pc' := 38) rfl rfl rfl ?_
      refine h_iconst (pc' := 39) (x := (Int32.ofInt 4)) rfl rfl rfl ?_
      refine h_cne (tg := 53) (pc' := 42) rfl rfl rfl hy1 ci_4 (fun c27 => ?_) (fun c27 => absurd c27 (by omega))
      refine h_iload_n (pc' := 54) rfl rfl rfl ?_
      refine h_iconst (pc' := 55) (x := (Int32.ofInt 5)) rfl rfl rfl ?_
      refine h_cne (tg := 69) (pc' := 58) rfl rfl rfl hy1 ci_5 (fun c28 => ?_) (fun c28 => absurd c28 (by omega))
      refine h_iload_n (pc' := 70) rfl rfl rfl ?_
      refine h_bipush (pc' := 72) (x := (Int32.ofInt 6)) rfl rfl cb_6 ?_
      refine h_cne (tg := 88) (pc' := 75) rfl rfl rfl hy1 ci_6 (fun c29 => ?_) (fun c29 => absurd c29 (by omega))
      refine h_iload_n (pc' := 89) rfl rfl rfl ?_
      refine h_bipush (pc' := 91) (x := (Int32.ofInt 7)) rfl rfl cb_7 ?_
      refine h_cne (tg := 106) (pc' := 94) rfl rfl rfl hy1 ci_7 (fun c30 => absurd (Int.le_antisymm (by omega) (by omega)) c30) (fun c30 => ?_)
      refine h_aload_n (pc' := 95) rfl rfl rfl ?_
      refine h_getI (pc' := 98) (v := σ2 98 7) rfl rfl rfl rfl rfl rfl (fun z31 hz31 => ?_)
      have tz31 := tf_98_7 hI2
      refine h_zeq (tg := 106) (pc' := 101) rfl rfl rfl hz31 (fun c32 => ?_) (fun c32 => absurd (Int.le_antisymm (by omega) (by omega)) c32)
      clear hz31
      refine h_aload_n (pc' := 107) rfl rfl rfl ?_
      refine h_aload_n (pc' := 108) rfl rfl rfl ?_
      refine h_getI (pc' := 111) (v := σ2 98 7) rfl rfl rfl rfl rfl rfl (fun z33 hz33 => ?_)
      refine h_zne (tg := 120) (pc' := 114) rfl rfl rfl hz33 (fun c34 => absurd (Int.le_antisymm (by omega) (by omega)) c34) (fun c34 => ?_)
      clear hz33
      refine h_iload_n (pc' := 115) rfl rfl rfl ?_
      refine h_bipush (pc' := 117) (x := (Int32.ofInt 7)) rfl rfl cb_7 ?_
      refine h_cne (tg := 124) (pc' := 120) rfl rfl rfl hy1 ci_7 (fun c35 => absurd (Int.le_antisymm (by omega) (by omega)) c35) (fun c35 => ?_)
      refine h_iconst (pc' := 121) (x := (Int32.ofInt 1)) rfl rfl rfl ?_
      refine h_goto (pc' := 125) rfl rfl ?_
      refine h_put (pc' := 128) rfl rfl rfl rfl rfl rfl ci_1 (h_fb ci_1 (by omega)) (h_fgt (E := fun s => s 98 15 = σ2 98 15 ∧ s 98 16 = σ2 98 16 ∧ s 98 17 = σ2 98 17 ∧ s 98 18 = σ2 98 18 ∧ s 98 13 = σ2 98 13 ∧ s 98 14 = σ2 98 14 ∧ s 98 5 = σ2 98 5 ∧ s 98 6 = σ2 98 6 ∧ s 98 7 = 1 ∧ s 98 8 = σ2 98 8 ∧ s 98 9 = σ2 98 9 ∧ s 101 18 = σ2 101 18 ∧ s 101 25 = σ2 101 25 ∧ s 101 43 = σ2 101 43 ∧ s = h_up σ2 98 7 1) _ (if_98_7 hI2 (by omega)) (F2.up rfl) ⟨rfl, rfl, rfl, rfl, rfl, rfl, rfl, rfl, rfl, rfl, rfl, rfl, rfl, rfl, rfl⟩ (fun s36 Is36 Fs36 (es36 : s36 98 15 = σ2 98 15 ∧ s36 98 16 = σ2 98 16 ∧ s36 98 17 = σ2 98 17 ∧ s36 98 18 = σ2 98 18 ∧ s36 98 13 = σ2 98 13 ∧ s36 98 14 = σ2 98 14 ∧ s36 98 5 = σ2 98 5 ∧ s36 98 6 = σ2 98 6 ∧ s36 98 7 = 1 ∧ s36 98 8 = σ2 98 8 ∧ s36 98 9 = σ2 98 9 ∧ s36 101 18 = σ2 101 18 ∧ s36 101 25 = σ2 101 25 ∧ s36 101 43 = σ2 101 43 ∧ s36 = h_up σ2 98 7 1) => ?_))
      have us36 := es36.2.2.2.2.2.2.2.2.2.2.2.2.2.2
      refine h_aload_n (pc' := 129) rfl rfl rfl ?_
      refine d_pcall (g_inj ns) (m1 := 54) (pc1' := 28) (M1 := [(0, .ref 63)]) (rest1 := []) (m2 := 148) (pc2' := 132) (M2 := [(0, .ref 98)]) (rest2 := []) ⟨false, _, _, _, _, _, _, rfl, rfl, rfl, rfl, rfl, rfl, rfl⟩ ⟨false, _, _, _, _, _, _, rfl, rfl, rfl, rfl, rfl, rfl, rfl⟩ hRw25 ?_
      refine pp_step Is24 Is36 (hTL.fr (Fs24.mono rfl) (Fs36.mono rfl)) (Int.le_antisymm (by omega) (by omega)) (Int.le_antisymm (by omega) (by omega)) (Int.le_antisymm (by omega) (by omega)) (by omega) (Or.inr ⟨Int.le_antisymm (by omega) (by omega), Int.le_antisymm (by omega) (by omega)⟩) (fun sq37 tq37 Isq37 Itq37 Gsq37 Gtq37 yq37_0 yq37_1 yq37_2 yq37_3 yq37_4 pcq37 memq37 hRq37 => ?_)
      have Fsq37 := (Gsq37.mono (B := k_pl) rfl).tr Fs24
      have Ftq37 := (Gtq37.mono (B := k_pm) rfl).tr Fs36
      have esq37_6 : sq37 64 1 = σ1 64 1 := (Gsq37 64 1 rfl).trans es24.2.2.2.2.2.2.1
      have esq37_7 : sq37 66 8 = σ1 66 8 := (Gsq37 66 8 rfl).trans es24.2.2.2.2.2.2.2.1
      have esq37_8 : sq37 66 9 = σ1 66 9 := (Gsq37 66 9 rfl).trans es24.2.2.2.2.2.2.2.2.1
      have esq37_9 : sq37 66 10 = σ1 66 10 := (Gsq37 66 10 rfl).trans es24.2.2.2.2.2.2.2.2.2.1
      have esq37_10 : sq37 69 2 = σ1 69 2 := (Gsq37 69 2 rfl).trans es24.2.2.2.2.2.2.2.2.2.2.1
      have esq37_11 : sq37 72 2 = σ1 72 2 := (Gsq37 72 2 rfl).trans es24.2.2.2.2.2.2.2.2.2.2.2.1
      have esq37_12 : sq37 63 5 = 1 := (Gsq37 63 5 rfl).trans es24.2.2.2.2.2.2.2.2.2.2.2.2.1
      have etq37_6 : tq37 98 5 = σ2 98 5 := (Gtq37 98 5 rfl).trans es36.2.2.2.2.2.2.1
      have etq37_7 : tq37 98 6 = σ2 98 6 := (Gtq37 98 6 rfl).trans es36.2.2.2.2.2.2.2.1
      have etq37_8 : tq37 98 7 = 1 := (Gtq37 98 7 rfl).trans es36.2.2.2.2.2.2.2.2.1
      have etq37_9 : tq37 98 8 = σ2 98 8 := (Gtq37 98 8 rfl).trans es36.2.2.2.2.2.2.2.2.2.1
      have etq37_10 : tq37 98 9 = σ2 98 9 := (Gtq37 98 9 rfl).trans es36.2.2.2.2.2.2.2.2.2.2.1
      have etq37_11 : tq37 101 18 = σ2 101 18 := (Gtq37 101 18 rfl).trans es36.2.2.2.2.2.2.2.2.2.2.2.1
      have etq37_12 : tq37 101 25 = σ2 101 25 := (Gtq37 101 25 rfl).trans es36.2.2.2.2.2.2.2.2.2.2.2.2.1
      have etq37_13 : tq37 101 43 = σ2 101 43 := (Gtq37 101 43 rfl).trans es36.2.2.2.2.2.2.2.2.2.2.2.2.2.1
      show h_T g_P (g_Y ns) 154 132 [(0, .ref 98), (1, .int y1)] [] tq37 _
      refine h_aload_n (pc' := 133) rfl rfl rfl ?_
      refine h_getI (pc' := 136) (v := tq37 98 13) rfl rfl rfl rfl rfl rfl (fun z38 hz38 => ?_)
      have tz38 := tf_98_13 Itq37
      refine h_zle (tg := 140) (pc' := 139) rfl rfl rfl hz38 (fun c39 => ?_) (fun c39 => ?_)
      · clear hz38
        refine h_aload_n (pc' := 141) rfl rfl rfl ?_
        refine h_iload_n (pc' := 142) rfl rfl rfl ?_
        refine d_call (g_inj ns) (pc' := 145) (m := 153) (M := [(0, .ref 98), (1, .int y1)]) (rest := []) ⟨false, _, _, _, _, _, _, rfl, rfl, rfl, rfl, rfl, rfl, rfl⟩ (fun lv40 hlv40 => ?_)
        refine h_iload_n (pc' := 1) rfl rfl rfl ?_
        refine h_iconst (pc' := 2) (x := (Int32.ofInt 3)) rfl rfl rfl ?_
        refine h_cgt (tg := 61) (pc' := 5) rfl rfl rfl hy1 ci_3 (fun c41 => ?_) (fun c41 => absurd c41 (by omega))
        refine h_iload_n (pc' := 62) rfl rfl rfl ?_
        refine h_iconst (pc' := 63) (x := (Int32.ofInt 4)) rfl rfl rfl ?_
        refine h_cne (tg := 82) (pc' := 66) rfl rfl rfl hy1 ci_4 (fun c42 => ?_) (fun c42 => absurd c42 (by omega))
        refine h_iload_n (pc' := 83) rfl rfl rfl ?_
        refine h_iconst (pc' := 84) (x := (Int32.ofInt 5)) rfl rfl rfl ?_
        refine h_cne (tg := 103) (pc' := 87) rfl rfl rfl hy1 ci_5 (fun c43 => ?_) (fun c43 => absurd c43 (by omega))
        refine h_iload_n (pc' := 104) rfl rfl rfl ?_
        refine h_bipush (pc' := 106) (x := (Int32.ofInt 6)) rfl rfl cb_6 ?_
        refine h_cne (tg := 174) (pc' := 109) rfl rfl rfl hy1 ci_6 (fun c44 => ?_) (fun c44 => absurd c44 (by omega))
        refine h_aload_n (pc' := 175) rfl rfl rfl ?_
        refine d_call (g_inj ns) (pc' := 178) (m := 152) (M := [(0, .ref 98)]) (rest := []) ⟨false, _, _, _, _, _, _, rfl, rfl, rfl, rfl, rfl, rfl, rfl⟩ (fun lv45 hlv45 => ?_)
        refine d_toL (g_inj ns) hlw25 hRq37 (fun lvw46 memw46 hlw46 hRw46 => ?_)
        show h_T g_P (g_Y ns) 62 28 [(0, .ref 63)] [] sq37 _
        refine h_iconst (pc' := 29) (x := (Int32.ofInt 0)) rfl rfl rfl ?_
        refine h_istore_n (pc' := 30) (M := [(1, .int (Int32.ofInt 0)), (0, .ref 63)]) rfl rfl rfl rfl ?_
        refine h_wk [(0, .ref 63), (1, .int (Int32.ofInt 0))] ⟨rfl, rfl, trivial⟩ (lp_pl Isq37 Itq37 (hTL.fr (Fsq37.mono rfl) (Ftq37.mono rfl)) (fun sq47 tq47 Isq47 Itq47 Gsq47 Gtq47   yq47_0 yq47_1 yq47_2 yq47_3 yq47_4 yq47_5 yq47_6 yq47_7 pcq47 lvq47 memq47 hlq47 hRq47 => ?_) 100000 _ _ Isq37 Itq37 h_F.rf h_F.rf (Int32.ofInt 0) _ ci_0  (Int.le_antisymm (by omega) (by omega)) (Int.le_antisymm (by omega) (by omega)) (Int.le_antisymm (by omega) (by omega)) (by omega) (Int.le_antisymm (by omega) (by omega)) (Int.le_antisymm (by omega) (by omega)) (⟨by omega, by omega⟩) (by omega) (by omega) (fun _ => d_mk (esq37_7) (esq37_8) (esq37_9) (esq37_10) (esq37_11) (esq37_12) (fun j => (Gsq37 67 j rfl).trans ((h_upo us24 rfl j))) (fun j => (Gsq37 68 j rfl).trans ((h_upo us24 rfl j))) (fun j => (Gsq37 70 j rfl).trans ((h_upo us24 rfl j))) (fun j => (Gsq37 71 j rfl).trans ((h_upo us24 rfl j))) (fun j => (Gsq37 73 j rfl).trans ((h_upo us24 rfl j))) (fun j => (Gsq37 74 j rfl).trans ((h_upo us24 rfl j))) (fun j => (Gsq37 75 j rfl).trans ((h_upo us24 rfl j))) (fun j => (Gsq37 76 j rfl).trans ((h_upo us24 rfl j))) (fun j => (Gsq37 77 j rfl).trans ((h_upo us24 rfl j))) (fun j => (Gsq37 78 j rfl).trans ((h_upo us24 rfl j))) (etq37_6) (etq37_7) (etq37_8) (etq37_9) (etq37_10) (fun j => (Gtq37 101 j rfl).trans ((h_upo us36 rfl j))) (r_pt pr10)) (pcq37.elim (fun pcq37 => (by exfalso; omega)) (fun pcq37 => (pcq37.elim (fun pcq37 => (Or.inr (Or.inl ⟨Int.le_antisymm (by omega) (by omega), Int.le_antisymm (by omega) (by omega), Int.le_antisymm (by omega) (by omega), Int.le_antisymm (by omega) (by omega), Int.le_antisymm (by omega) (by omega), Int.le_antisymm (by omega) (by omega)⟩))) (fun pcq37 => (pcq37.elim (fun pcq37 => (Or.inr (Or.inr (Or.inl ⟨Int.le_antisymm (by omega) (by omega), Int.le_antisymm (by omega) (by omega), Int.le_antisymm (by omega) (by omega), Int.le_antisymm (by omega) (by omega), Int.le_antisymm (by omega) (by omega), by omega, by omega⟩)))) (fun pcq37 => (pcq37.elim (fun pcq37 => (Or.inr (Or.inr (Or.inr (Or.inl ⟨Int.le_antisymm (by omega) (by omega), Int.le_antisymm (by omega) (by omega), Int.le_antisymm (by omega) (by omega), Int.le_antisymm (by omega) (by omega), ⟨by omega, by omega⟩, ⟨by omega, by omega⟩, Int.le_antisymm (by omega) (by omega), Int.le_antisymm (by omega) (by omega), by omega, by omega⟩))))) (fun pcq37 => (Or.inr (Or.inr (Or.inr (Or.inr ⟨Int.le_antisymm (by omega) (by omega), Int.le_antisymm (by omega) (by omega), Int.le_antisymm (by omega) (by omega), Int.le_antisymm (by omega) (by omega), Int.le_antisymm (by omega) (by omega), by omega, by omega⟩)))))))))))) (by omega) _ _ (h_al_ok ⟨rfl, trivial⟩ hlw46) hRw46)
        · have Fsq47 := (Gsq47.mono (B := k_pl) rfl).tr Fsq37
          have Ftq47 := (Gtq47.mono (B := k_pm) rfl).tr Ftq37
          have Isq47 := Isq47
          have Itq47 := Itq47
          have Gsq47 := Gsq47
          have Gtq47 := Gtq47
          have esq47_6 : sq47 64 1 = σ1 64 1 := (Gsq47 64 1 rfl).trans esq37_6
          rcases pcq47 with pcq47 | pcq47
          · show h_T g_P (g_Y ns) 62 53 [(0, .ref 63)] [] sq47 _
            refine h_vret rfl rfl (d_retn hlv21 ?_)
            refine h_goto (pc' := 150) rfl rfl ?_
            refine h_aload_n (pc' := 151) rfl rfl rfl ?_
            refine h_getI (pc' := 154) (v := sq47 63 2) rfl rfl rfl rfl rfl rfl (fun z48 hz48 => ?_)
            have tz48 := tf_63_2 Isq47
            refine h_zne (tg := 180) (pc' := 157) rfl rfl rfl hz48 (fun c49 => ?_) (fun c49 => absurd c49 (by omega))
            clear hz48
            refine d_toM (g_inj ns) hlq47 hRq47 (fun lvw50 memw50 hlw50 hRw50 => ?_)
            show h_T g_P (g_Y ns) 152 167 [(0, .ref 98)] [] tq47 _
            refine h_vret rfl rfl (d_retn hlv45 ?_)
            refine h_vret rfl rfl (d_retn hlv40 ?_)
            refine h_aload_n (pc' := 146) rfl rfl rfl ?_
            refine h_getI (pc' := 149) (v := tq47 98 13) rfl rfl rfl rfl rfl rfl (fun z51 hz51 => ?_)
            have tz51 := tf_98_13 Itq47
            refine h_zne (tg := 165) (pc' := 152) rfl rfl rfl hz51 (fun c52 => ?_) (fun c52 => absurd c52 (by omega))
            clear hz51
            refine d_toL (g_inj ns) hlw50 hRw50 (fun lvw53 memw53 hlw53 hRw53 => ?_)
            show h_T g_P (g_Y ns) 56 180 [(0, .ref 63), (1, .int x1)] [] sq47 _
            exact h_wk [(0, .ref 63)] ⟨rfl, trivial⟩ (kx0 _ _ Isq47 Itq47 Fsq47 Ftq47 (Int.le_antisymm (by omega) (by omega)) (Int.le_antisymm (by omega) (by omega)) (Int.le_antisymm (by omega) (by omega)) (by omega) (by omega) (fun h => absurd h (by omega)) (Or.inl ⟨⟨by omega, by omega⟩, ⟨by omega, by omega⟩, Int.le_antisymm (by omega) (by omega), Int.le_antisymm (by omega) (by omega)⟩) _ _ (h_al_ok ⟨rfl, trivial⟩ hlw53) hRw53)
          · show h_T g_P (g_Y ns) 62 53 [(0, .ref 63)] [] sq47 _
            refine h_vret rfl rfl (d_retn hlv21 ?_)
            refine h_goto (pc' := 150) rfl rfl ?_
            refine d_toM (g_inj ns) hlq47 hRq47 (fun lvw54 memw54 hlw54 hRw54 => ?_)
            show h_T g_P (g_Y ns) 152 167 [(0, .ref 98)] [] tq47 _
            refine h_vret rfl rfl (d_retn hlv45 ?_)
            refine h_vret rfl rfl (d_retn hlv40 ?_)
            refine d_toL (g_inj ns) hlw54 hRw54 (fun lvw55 memw55 hlw55 hRw55 => ?_)
            show h_T g_P (g_Y ns) 56 150 [(0, .ref 63), (1, .int x1)] [] sq47 _
            refine h_wk [(0, .ref 63)] ⟨rfl, trivial⟩ (ls_sc Isq47 Itq47 (hTL.fr (Fsq47.mono rfl) (Ftq47.mono rfl))   (Int.le_antisymm (by omega) (by omega)) (Int.le_antisymm (by omega) (by omega)) (Int.le_antisymm (by omega) (by omega)) (by omega) (yq47_5) (pcq47.elim (fun pcq47 => (Or.inl ⟨Int.le_antisymm (by omega) (by omega), Int.le_antisymm (by omega) (by omega), Int.le_antisymm (by omega) (by omega), Int.le_antisymm (by omega) (by omega), Int.le_antisymm (by omega) (by omega)⟩)) (fun pcq47 => (pcq47.elim (fun pcq47 => (Or.inr (Or.inl ⟨Int.le_antisymm (by omega) (by omega), Int.le_antisymm (by omega) (by omega), Int.le_antisymm (by omega) (by omega), Int.le_antisymm (by omega) (by omega), by omega⟩))) (fun pcq47 => (pcq47.elim (fun pcq47 => (Or.inr (Or.inr (Or.inl ⟨Int.le_antisymm (by omega) (by omega), Int.le_antisymm (by omega) (by omega), Int.le_antisymm (by omega) (by omega), Int.le_antisymm (by omega) (by omega), ⟨by omega, by omega⟩, ⟨by omega, by omega⟩, Int.le_antisymm (by omega) (by omega), by omega⟩)))) (fun pcq47 => (Or.inr (Or.inr (Or.inr ⟨Int.le_antisymm (by omega) (by omega), Int.le_antisymm (by omega) (by omega), Int.le_antisymm (by omega) (by omega), Int.le_antisymm (by omega) (by omega), by omega⟩))))))))) (fun sq56 tq56 Isq56 Itq56 Gsq56 Gtq56   yq56_0 yq56_1 yq56_2 yq56_3 yq56_4 yq56_5 pcq56 lvq56 memq56 hlq56 hRq56 => ?_) _ _ (h_al_ok ⟨rfl, trivial⟩ hlw55) hRw55)
            · have Fsq56 := (Gsq56.mono (B := k_pl) rfl).tr Fsq47
              have Ftq56 := (Gtq56.mono (B := k_pm) rfl).tr Ftq47
              have Isq56 := Isq56
              have Itq56 := Itq56
              have Gsq56 := Gsq56
              have Gtq56 := Gtq56
              have esq56_6 : sq56 64 1 = σ1 64 1 := (Gsq56 64 1 rfl).trans esq47_6
              rcases pcq56 with pcq56 | pcq56
              · show h_T g_P (g_Y ns) 56 180 [(0, .ref 63)] [] sq56 _
                refine d_toM (g_inj ns) hlq56 hRq56 (fun lvw57 memw57 hlw57 hRw57 => ?_)
                show h_T g_P (g_Y ns) 154 165 [(0, .ref 98)] [] tq56 _
                refine d_toL (g_inj ns) hlw57 hRw57 (fun lvw58 memw58 hlw58 hRw58 => ?_)
                show h_T g_P (g_Y ns) 56 180 [(0, .ref 63)] [] sq56 _
                exact h_wk [(0, .ref 63)] ⟨rfl, trivial⟩ (kx0 _ _ Isq56 Itq56 Fsq56 Ftq56 (Int.le_antisymm (by omega) (by omega)) (Int.le_antisymm (by omega) (by omega)) (Int.le_antisymm (by omega) (by omega)) (by omega) (by omega) (fun h => absurd h (by omega)) (Or.inl ⟨⟨by omega, by omega⟩, ⟨by omega, by omega⟩, Int.le_antisymm (by omega) (by omega), Int.le_antisymm (by omega) (by omega)⟩) _ _ (h_al_ok ⟨rfl, trivial⟩ hlw58) hRw58)
              · show h_T g_P (g_Y ns) 56 180 [(0, .ref 63)] [] sq56 _
                refine d_toM (g_inj ns) hlq56 hRq56 (fun lvw59 memw59 hlw59 hRw59 => ?_)
                show h_T g_P (g_Y ns) 154 165 [(0, .ref 98)] [] tq56 _
                refine d_toL (g_inj ns) hlw59 hRw59 (fun lvw60 memw60 hlw60 hRw60 => ?_)
                show h_T g_P (g_Y ns) 56 180 [(0, .ref 63)] [] sq56 _
                exact h_wk [(0, .ref 63)] ⟨rfl, trivial⟩ (kx0 _ _ Isq56 Itq56 Fsq56 Ftq56 (Int.le_antisymm (by omega) (by omega)) (Int.le_antisymm (by omega) (by omega)) (Int.le_antisymm (by omega) (by omega)) (by omega) (by omega) (yq56_5) (Or.inr ⟨Int.le_antisymm (by omega) (by omega), Int.le_antisymm (by omega) (by omega), Int.le_antisymm (by omega) (by omega), Int.le_antisymm (by omega) (by omega), by omega, by omega⟩) _ _ (h_al_ok ⟨rfl, trivial⟩ hlw60) hRw60)
      · clear hz38
        refine d_toL (g_inj ns) hlw25 hRq37 (fun lvw61 memw61 hlw61 hRw61 => ?_)
        show h_T g_P (g_Y ns) 62 28 [(0, .ref 63)] [] sq37 _
        refine h_iconst (pc' := 29) (x := (Int32.ofInt 0)) rfl rfl rfl ?_
        refine h_istore_n (pc' := 30) (M := [(1, .int (Int32.ofInt 0)), (0, .ref 63)]) rfl rfl rfl rfl ?_
        refine h_iload_n (pc' := 31) rfl rfl rfl ?_
        refine h_bipush (pc' := 33) (x := (Int32.ofInt 8)) rfl rfl cb_8 ?_
        refine h_cgt (tg := 53) (pc' := 36) rfl rfl rfl ci_0 ci_8 (fun c62 => absurd c62 (by omega)) (fun c62 => ?_)
        refine h_aload_n (pc' := 37) rfl rfl rfl ?_
        refine h_call (sp := false) (pc' := 40) (M := [(0, .ref 63)]) rfl rfl rfl rfl rfl rfl rfl rfl ?_
        refine h_aload_n (pc' := 1) rfl rfl rfl ?_
        refine h_getI (pc' := 4) (v := sq37 63 2) rfl rfl rfl rfl rfl rfl (fun z63 hz63 => ?_)
        have tz63 := tf_63_2 Isq37
        refine h_zne (tg := 22) (pc' := 7) rfl rfl rfl hz63 (fun c64 => ?_) (fun c64 => absurd c64 (by omega))
        clear hz63
        refine h_iconst (pc' := 23) (x := (Int32.ofInt 0)) rfl rfl rfl ?_
        refine h_zret rfl rfl ci_0 (by omega) (h_Kv ?_)
        refine h_zeq (tg := 53) (pc' := 43) rfl rfl rfl ci_0 (fun c65 => ?_) (fun c65 => absurd (Int.le_antisymm (by omega) (by omega)) c65)
        refine h_vret rfl rfl (d_retn hlv21 ?_)
        refine h_goto (pc' := 150) rfl rfl ?_
        refine h_aload_n (pc' := 151) rfl rfl rfl ?_
        refine h_getI (pc' := 154) (v := sq37 63 2) rfl rfl rfl rfl rfl rfl (fun z66 hz66 => ?_)
        refine h_zne (tg := 180) (pc' := 157) rfl rfl rfl hz66 (fun c67 => ?_) (fun c67 => absurd c67 (by omega))
        clear hz66
        exact h_wk [(0, .ref 63)] ⟨rfl, trivial⟩ (kx1 _ _ Isq37 Itq37 Fsq37 Ftq37 (Int.le_antisymm (by omega) (by omega)) (Int.le_antisymm (by omega) (by omega)) (Int.le_antisymm (by omega) (by omega)) (by omega) (by omega) (pcq37.elim (fun pcq37 => ⟨⟨by omega, by omega⟩, ⟨by omega, by omega⟩, Int.le_antisymm (by omega) (by omega), Int.le_antisymm (by omega) (by omega)⟩) (fun pcq37 => (pcq37.elim (fun pcq37 => (by exfalso; omega)) (fun pcq37 => (pcq37.elim (fun pcq37 => (by exfalso; omega)) (fun pcq37 => (pcq37.elim (fun pcq37 => (by exfalso; omega)) (fun pcq37 => (by exfalso; omega))))))))) _ _ (h_al_ok ⟨rfl, trivial⟩ hlw61) hRw61)
    · clear hz22
      refine h_aload_n (pc' := 8) rfl rfl rfl ?_
      refine h_iconst (pc' := 9) (x := (Int32.ofInt 4)) rfl rfl rfl ?_
      refine h_aload_n (pc' := 10) rfl rfl rfl ?_
      refine h_getR (pc' := 13) rfl rfl rfl rfl rfl ?_
      refine h_getI (pc' := 16) (v := σ1 64 4) rfl rfl rfl rfl rfl rfl (fun z68 hz68 => ?_)
      have tz68 := tf_64_4 hI1
      refine h_call (sp := false) (pc' := 19) (M := [(0, .ref 63), (1, .int (Int32.ofInt 4)), (2, .int z68)]) rfl rfl rfl rfl rfl rfl rfl rfl ?_
      refine h_aload_n (pc' := 1) rfl rfl rfl ?_
      refine h_getI (pc' := 4) (v := σ1 63 2) rfl rfl rfl rfl rfl rfl (fun z69 hz69 => ?_)
      have tz69 := tf_63_2 hI1
      refine h_zne (tg := 17) (pc' := 7) rfl rfl rfl hz69 (fun c70 => absurd (Int.le_antisymm (by omega) (by omega)) c70) (fun c70 => ?_)
      clear hz69
      refine h_aload_n (pc' := 8) rfl rfl rfl ?_
      refine h_iload_n (pc' := 9) rfl rfl rfl ?_
      refine h_put (pc' := 12) rfl rfl rfl rfl rfl rfl ci_4 rfl (h_fgt (E := fun s => s 64 2 = σ1 64 2 ∧ s 64 4 = σ1 64 4 ∧ s 64 3 = σ1 64 3 ∧ s 64 5 = σ1 64 5 ∧ s 63 2 = 4 ∧ s 63 3 = σ1 63 3 ∧ s 64 1 = σ1 64 1 ∧ s 66 8 = σ1 66 8 ∧ s 66 9 = σ1 66 9 ∧ s 66 10 = σ1 66 10 ∧ s 69 2 = σ1 69 2 ∧ s 72 2 = σ1 72 2 ∧ s 63 5 = σ1 63 5 ∧ s = h_up σ1 63 2 4) _ (if_63_2 hI1 (by omega)) (F1.up rfl) ⟨rfl, rfl, rfl, rfl, rfl, rfl, rfl, rfl, rfl, rfl, rfl, rfl, rfl, rfl⟩ (fun s71 Is71 Fs71 (es71 : s71 64 2 = σ1 64 2 ∧ s71 64 4 = σ1 64 4 ∧ s71 64 3 = σ1 64 3 ∧ s71 64 5 = σ1 64 5 ∧ s71 63 2 = 4 ∧ s71 63 3 = σ1 63 3 ∧ s71 64 1 = σ1 64 1 ∧ s71 66 8 = σ1 66 8 ∧ s71 66 9 = σ1 66 9 ∧ s71 66 10 = σ1 66 10 ∧ s71 69 2 = σ1 69 2 ∧ s71 72 2 = σ1 72 2 ∧ s71 63 5 = σ1 63 5 ∧ s71 = h_up σ1 63 2 4) => ?_))
      have us71 := es71.2.2.2.2.2.2.2.2.2.2.2.2.2
      refine h_aload_n (pc' := 13) rfl rfl rfl ?_
      refine h_iload_n (pc' := 14) rfl rfl rfl ?_
      refine h_put (pc' := 17) rfl rfl rfl rfl rfl rfl hz68 rfl (h_fgt (E := fun s => s 64 2 = σ1 64 2 ∧ s 64 4 = σ1 64 4 ∧ s 64 3 = σ1 64 3 ∧ s 64 5 = σ1 64 5 ∧ s 63 2 = 4 ∧ s 63 3 = (σ1 64 4) ∧ s 64 1 = σ1 64 1 ∧ s 66 8 = σ1 66 8 ∧ s 66 9 = σ1 66 9 ∧ s 66 10 = σ1 66 10 ∧ s 69 2 = σ1 69 2 ∧ s 72 2 = σ1 72 2 ∧ s 63 5 = σ1 63 5 ∧ s = h_up s71 63 3 (σ1 64 4)) _ (if_63_3 Is71 (h_rgv hz68)) (Fs71.up rfl) ⟨es71.1, es71.2.1, es71.2.2.1, es71.2.2.2.1, es71.2.2.2.2.1, rfl, es71.2.2.2.2.2.2.1, es71.2.2.2.2.2.2.2.1, es71.2.2.2.2.2.2.2.2.1, es71.2.2.2.2.2.2.2.2.2.1, es71.2.2.2.2.2.2.2.2.2.2.1, es71.2.2.2.2.2.2.2.2.2.2.2.1, es71.2.2.2.2.2.2.2.2.2.2.2.2.1, rfl⟩ (fun s72 Is72 Fs72 (es72 : s72 64 2 = σ1 64 2 ∧ s72 64 4 = σ1 64 4 ∧ s72 64 3 = σ1 64 3 ∧ s72 64 5 = σ1 64 5 ∧ s72 63 2 = 4 ∧ s72 63 3 = (σ1 64 4) ∧ s72 64 1 = σ1 64 1 ∧ s72 66 8 = σ1 66 8 ∧ s72 66 9 = σ1 66 9 ∧ s72 66 10 = σ1 66 10 ∧ s72 69 2 = σ1 69 2 ∧ s72 72 2 = σ1 72 2 ∧ s72 63 5 = σ1 63 5 ∧ s72 = h_up s71 63 3 (σ1 64 4)) => ?_))
      clear es71
      have us72 := es72.2.2.2.2.2.2.2.2.2.2.2.2.2
      refine h_vret rfl rfl (h_Kn ?_)
      refine h_aload_n (pc' := 20) rfl rfl rfl ?_
      refine h_iconst (pc' := 21) (x := (Int32.ofInt 1)) rfl rfl rfl ?_
      refine h_put (pc' := 24) rfl rfl rfl rfl rfl rfl ci_1 (h_fb ci_1 (by omega)) (h_fgt (E := fun s => s 64 2 = σ1 64 2 ∧ s 64 4 = σ1 64 4 ∧ s 64 3 = σ1 64 3 ∧ s 64 5 = σ1 64 5 ∧ s 63 2 = 4 ∧ s 63 3 = (σ1 64 4) ∧ s 64 1 = σ1 64 1 ∧ s 66 8 = σ1 66 8 ∧ s 66 9 = σ1 66 9 ∧ s 66 10 = σ1 66 10 ∧ s 69 2 = σ1 69 2 ∧ s 72 2 = σ1 72 2 ∧ s 63 5 = 1 ∧ s = h_up s72 63 5 1) _ (if_63_5 Is72 (by omega)) (Fs72.up rfl) ⟨es72.1, es72.2.1, es72.2.2.1, es72.2.2.2.1, es72.2.2.2.2.1, es72.2.2.2.2.2.1, es72.2.2.2.2.2.2.1, es72.2.2.2.2.2.2.2.1, es72.2.2.2.2.2.2.2.2.1, es72.2.2.2.2.2.2.2.2.2.1, es72.2.2.2.2.2.2.2.2.2.2.1, es72.2.2.2.2.2.2.2.2.2.2.2.1, rfl, rfl⟩ (fun s73 Is73 Fs73 (es73 : s73 64 2 = σ1 64 2 ∧ s73 64 4 = σ1 64 4 ∧ s73 64 3 = σ1 64 3 ∧ s73 64 5 = σ1 64 5 ∧ s73 63 2 = 4 ∧ s73 63 3 = (σ1 64 4) ∧ s73 64 1 = σ1 64 1 ∧ s73 66 8 = σ1 66 8 ∧ s73 66 9 = σ1 66 9 ∧ s73 66 10 = σ1 66 10 ∧ s73 69 2 = σ1 69 2 ∧ s73 72 2 = σ1 72 2 ∧ s73 63 5 = 1 ∧ s73 = h_up s72 63 5 1) => ?_))
      clear es72
      have us73 := es73.2.2.2.2.2.2.2.2.2.2.2.2.2
      refine h_aload_n (pc' := 25) rfl rfl rfl ?_
      refine h_call (sp := false) (pc' := 28) (M := [(0, .ref 63)]) rfl rfl rfl rfl rfl rfl rfl rfl ?_
      refine h_aload_n (pc' := 1) rfl rfl rfl ?_
      refine h_getI (pc' := 4) (v := 4) rfl rfl rfl rfl rfl es73.2.2.2.2.1 (fun z74 hz74 => ?_)
      refine h_zne (tg := 37) (pc' := 7) rfl rfl rfl hz74 (fun c75 => ?_) (fun c75 => absurd c75 (by omega))
      clear hz74
      refine h_vret rfl rfl (h_Kn ?_)
      refine h_iconst (pc' := 29) (x := (Int32.ofInt 0)) rfl rfl rfl ?_
      refine h_istore_n (pc' := 30) (M := [(1, .int (Int32.ofInt 0)), (0, .ref 63)]) rfl rfl rfl rfl ?_
      refine h_iload_n (pc' := 31) rfl rfl rfl ?_
      refine h_bipush (pc' := 33) (x := (Int32.ofInt 8)) rfl rfl cb_8 ?_
      refine h_cgt (tg := 53) (pc' := 36) rfl rfl rfl ci_0 ci_8 (fun c76 => absurd c76 (by omega)) (fun c76 => ?_)
      refine h_aload_n (pc' := 37) rfl rfl rfl ?_
      refine h_call (sp := false) (pc' := 40) (M := [(0, .ref 63)]) rfl rfl rfl rfl rfl rfl rfl rfl ?_
      refine h_aload_n (pc' := 1) rfl rfl rfl ?_
      refine h_getI (pc' := 4) (v := 4) rfl rfl rfl rfl rfl es73.2.2.2.2.1 (fun z77 hz77 => ?_)
      refine h_zne (tg := 22) (pc' := 7) rfl rfl rfl hz77 (fun c78 => ?_) (fun c78 => absurd c78 (by omega))
      clear hz77
      refine h_iconst (pc' := 23) (x := (Int32.ofInt 0)) rfl rfl rfl ?_
      refine h_zret rfl rfl ci_0 (by omega) (h_Kv ?_)
      refine h_zeq (tg := 53) (pc' := 43) rfl rfl rfl ci_0 (fun c79 => ?_) (fun c79 => absurd (Int.le_antisymm (by omega) (by omega)) c79)
      refine h_vret rfl rfl (d_retn hlv21 ?_)
      refine h_goto (pc' := 150) rfl rfl ?_
      refine h_aload_n (pc' := 151) rfl rfl rfl ?_
      refine h_getI (pc' := 154) (v := 4) rfl rfl rfl rfl rfl es73.2.2.2.2.1 (fun z80 hz80 => ?_)
      refine h_zne (tg := 180) (pc' := 157) rfl rfl rfl hz80 (fun c81 => ?_) (fun c81 => absurd c81 (by omega))
      clear hz80
      refine d_toM (g_inj ns) hl2 hR2 (fun lvw82 memw82 hlw82 hRw82 => ?_)
      show h_T g_P (g_Y ns) 154 23 [(0, .ref 98), (1, .int y1)] [] σ2 _
      refine h_iload_n (pc' := 24) rfl rfl rfl ?_
      refine h_iconst (pc' := 25) (x := (Int32.ofInt 3)) rfl rfl rfl ?_
      refine h_cgt (tg := 37) (pc' := 28) rfl rfl rfl hy1 ci_3 (fun c83 => ?_) (fun c83 => absurd c83 (by omega))
      refine h_iload_n (pc' := 38) rfl rfl rfl ?_
      refine h_iconst (pc' := 39) (x := (Int32.ofInt 4)) rfl rfl rfl ?_
      refine h_cne (tg := 53) (pc' := 42) rfl rfl rfl hy1 ci_4 (fun c84 => ?_) (fun c84 => absurd c84 (by omega))
      refine h_iload_n (pc' := 54) rfl rfl rfl ?_
      refine h_iconst (pc' := 55) (x := (Int32.ofInt 5)) rfl rfl rfl ?_
      refine h_cne (tg := 69) (pc' := 58) rfl rfl rfl hy1 ci_5 (fun c85 => ?_) (fun c85 => absurd c85 (by omega))
      refine h_iload_n (pc' := 70) rfl rfl rfl ?_
      refine h_bipush (pc' := 72) (x := (Int32.ofInt 6)) rfl rfl cb_6 ?_
      refine h_cne (tg := 88) (pc' := 75) rfl rfl rfl hy1 ci_6 (fun c86 => ?_) (fun c86 => absurd c86 (by omega))
      refine h_iload_n (pc' := 89) rfl rfl rfl ?_
      refine h_bipush (pc' := 91) (x := (Int32.ofInt 7)) rfl rfl cb_7 ?_
      refine h_cne (tg := 106) (pc' := 94) rfl rfl rfl hy1 ci_7 (fun c87 => absurd (Int.le_antisymm (by omega) (by omega)) c87) (fun c87 => ?_)
      refine h_aload_n (pc' := 95) rfl rfl rfl ?_
      refine h_getI (pc' := 98) (v := σ2 98 7) rfl rfl rfl rfl rfl rfl (fun z88 hz88 => ?_)
      have tz88 := tf_98_7 hI2
      refine h_zeq (tg := 106) (pc' := 101) rfl rfl rfl hz88 (fun c89 => absurd c89 (by omega)) (fun c89 => ?_)
      clear hz88
      refine h_aload_n (pc' := 102) rfl rfl rfl ?_
      refine h_iconst (pc' := 103) (x := (Int32.ofInt 4)) rfl rfl rfl ?_
      refine h_call (sp := false) (pc' := 106) (M := [(0, .ref 98), (1, .int (Int32.ofInt 4))]) rfl rfl rfl rfl rfl rfl rfl rfl ?_
      refine h_aload_n (pc' := 1) rfl rfl rfl ?_
      refine h_getI (pc' := 4) (v := σ2 98 13) rfl rfl rfl rfl rfl rfl (fun z90 hz90 => ?_)
      have tz90 := tf_98_13 hI2
      refine h_zne (tg := 20) (pc' := 7) rfl rfl rfl hz90 (fun c91 => absurd (Int.le_antisymm (by omega) (by omega)) c91) (fun c91 => ?_)
      clear hz90
      refine h_aload_n (pc' := 8) rfl rfl rfl ?_
      refine h_iload_n (pc' := 9) rfl rfl rfl ?_
      refine h_put (pc' := 12) rfl rfl rfl rfl rfl rfl ci_4 rfl (h_fgt (E := fun s => s 98 15 = σ2 98 15 ∧ s 98 16 = σ2 98 16 ∧ s 98 17 = σ2 98 17 ∧ s 98 18 = σ2 98 18 ∧ s 98 13 = 4 ∧ s 98 14 = σ2 98 14 ∧ s 98 5 = σ2 98 5 ∧ s 98 6 = σ2 98 6 ∧ s 98 7 = σ2 98 7 ∧ s 98 8 = σ2 98 8 ∧ s 98 9 = σ2 98 9 ∧ s 101 18 = σ2 101 18 ∧ s 101 25 = σ2 101 25 ∧ s 101 43 = σ2 101 43 ∧ s = h_up σ2 98 13 4) _ (if_98_13 hI2 (by omega)) (F2.up rfl) ⟨rfl, rfl, rfl, rfl, rfl, rfl, rfl, rfl, rfl, rfl, rfl, rfl, rfl, rfl, rfl⟩ (fun s92 Is92 Fs92 (es92 : s92 98 15 = σ2 98 15 ∧ s92 98 16 = σ2 98 16 ∧ s92 98 17 = σ2 98 17 ∧ s92 98 18 = σ2 98 18 ∧ s92 98 13 = 4 ∧ s92 98 14 = σ2 98 14 ∧ s92 98 5 = σ2 98 5 ∧ s92 98 6 = σ2 98 6 ∧ s92 98 7 = σ2 98 7 ∧ s92 98 8 = σ2 98 8 ∧ s92 98 9 = σ2 98 9 ∧ s92 101 18 = σ2 101 18 ∧ s92 101 25 = σ2 101 25 ∧ s92 101 43 = σ2 101 43 ∧ s92 = h_up σ2 98 13 4) => ?_))
      have us92 := es92.2.2.2.2.2.2.2.2.2.2.2.2.2.2
      refine h_aload_n (pc' := 13) rfl rfl rfl ?_
      refine h_aload_n (pc' := 14) rfl rfl rfl ?_
      refine h_getI (pc' := 17) (v := σ2 98 16) rfl rfl rfl rfl rfl es92.2.1 (fun z93 hz93 => ?_)
      have tz93 := tf_98_16 hI2
      refine h_put (pc' := 20) rfl rfl rfl rfl rfl rfl hz93 rfl (h_fgt (E := fun s => s 98 15 = σ2 98 15 ∧ s 98 16 = σ2 98 16 ∧ s 98 17 = σ2 98 17 ∧ s 98 18 = σ2 98 18 ∧ s 98 13 = 4 ∧ s 98 14 = (σ2 98 16) ∧ s 98 5 = σ2 98 5 ∧ s 98 6 = σ2 98 6 ∧ s 98 7 = σ2 98 7 ∧ s 98 8 = σ2 98 8 ∧ s 98 9 = σ2 98 9 ∧ s 101 18 = σ2 101 18 ∧ s 101 25 = σ2 101 25 ∧ s 101 43 = σ2 101 43 ∧ s = h_up s92 98 14 (σ2 98 16)) _ (if_98_14 Is92 (h_rgv hz93)) (Fs92.up rfl) ⟨es92.1, es92.2.1, es92.2.2.1, es92.2.2.2.1, es92.2.2.2.2.1, rfl, es92.2.2.2.2.2.2.1, es92.2.2.2.2.2.2.2.1, es92.2.2.2.2.2.2.2.2.1, es92.2.2.2.2.2.2.2.2.2.1, es92.2.2.2.2.2.2.2.2.2.2.1, es92.2.2.2.2.2.2.2.2.2.2.2.1, es92.2.2.2.2.2.2.2.2.2.2.2.2.1, es92.2.2.2.2.2.2.2.2.2.2.2.2.2.1, rfl⟩ (fun s94 Is94 Fs94 (es94 : s94 98 15 = σ2 98 15 ∧ s94 98 16 = σ2 98 16 ∧ s94 98 17 = σ2 98 17 ∧ s94 98 18 = σ2 98 18 ∧ s94 98 13 = 4 ∧ s94 98 14 = (σ2 98 16) ∧ s94 98 5 = σ2 98 5 ∧ s94 98 6 = σ2 98 6 ∧ s94 98 7 = σ2 98 7 ∧ s94 98 8 = σ2 98 8 ∧ s94 98 9 = σ2 98 9 ∧ s94 101 18 = σ2 101 18 ∧ s94 101 25 = σ2 101 25 ∧ s94 101 43 = σ2 101 43 ∧ s94 = h_up s92 98 14 (σ2 98 16)) => ?_))
      clear es92
      have us94 := es94.2.2.2.2.2.2.2.2.2.2.2.2.2.2
      refine h_vret rfl rfl (h_Kn ?_)
      refine h_aload_n (pc' := 107) rfl rfl rfl ?_
      refine h_aload_n (pc' := 108) rfl rfl rfl ?_
      refine h_getI (pc' := 111) (v := σ2 98 7) rfl rfl rfl rfl rfl es94.2.2.2.2.2.2.2.2.1 (fun z95 hz95 => ?_)
      refine h_zne (tg := 120) (pc' := 114) rfl rfl rfl hz95 (fun c96 => ?_) (fun c96 => absurd c96 (by omega))
      clear hz95
      refine h_iconst (pc' := 121) (x := (Int32.ofInt 1)) rfl rfl rfl ?_
      refine h_goto (pc' := 125) rfl rfl ?_
      refine h_put (pc' := 128) rfl rfl rfl rfl rfl rfl ci_1 (h_fb ci_1 (by omega)) (h_fgt (E := fun s => s 98 15 = σ2 98 15 ∧ s 98 16 = σ2 98 16 ∧ s 98 17 = σ2 98 17 ∧ s 98 18 = σ2 98 18 ∧ s 98 13 = 4 ∧ s 98 14 = (σ2 98 16) ∧ s 98 5 = σ2 98 5 ∧ s 98 6 = σ2 98 6 ∧ s 98 7 = 1 ∧ s 98 8 = σ2 98 8 ∧ s 98 9 = σ2 98 9 ∧ s 101 18 = σ2 101 18 ∧ s 101 25 = σ2 101 25 ∧ s 101 43 = σ2 101 43 ∧ s = h_up s94 98 7 1) _ (if_98_7 Is94 (by omega)) (Fs94.up rfl) ⟨es94.1, es94.2.1, es94.2.2.1, es94.2.2.2.1, es94.2.2.2.2.1, es94.2.2.2.2.2.1, es94.2.2.2.2.2.2.1, es94.2.2.2.2.2.2.2.1, rfl, es94.2.2.2.2.2.2.2.2.2.1, es94.2.2.2.2.2.2.2.2.2.2.1, es94.2.2.2.2.2.2.2.2.2.2.2.1, es94.2.2.2.2.2.2.2.2.2.2.2.2.1, es94.2.2.2.2.2.2.2.2.2.2.2.2.2.1, rfl⟩ (fun s97 Is97 Fs97 (es97 : s97 98 15 = σ2 98 15 ∧ s97 98 16 = σ2 98 16 ∧ s97 98 17 = σ2 98 17 ∧ s97 98 18 = σ2 98 18 ∧ s97 98 13 = 4 ∧ s97 98 14 = (σ2 98 16) ∧ s97 98 5 = σ2 98 5 ∧ s97 98 6 = σ2 98 6 ∧ s97 98 7 = 1 ∧ s97 98 8 = σ2 98 8 ∧ s97 98 9 = σ2 98 9 ∧ s97 101 18 = σ2 101 18 ∧ s97 101 25 = σ2 101 25 ∧ s97 101 43 = σ2 101 43 ∧ s97 = h_up s94 98 7 1) => ?_))
      clear es94
      have us97 := es97.2.2.2.2.2.2.2.2.2.2.2.2.2.2
      refine h_aload_n (pc' := 129) rfl rfl rfl ?_
      refine h_call (sp := false) (pc' := 132) (M := [(0, .ref 98)]) rfl rfl rfl rfl rfl rfl rfl rfl ?_
      refine h_aload_n (pc' := 1) rfl rfl rfl ?_
      refine h_getI (pc' := 4) (v := 4) rfl rfl rfl rfl rfl es97.2.2.2.2.1 (fun z98 hz98 => ?_)
      refine h_zle (tg := 8) (pc' := 7) rfl rfl rfl hz98 (fun c99 => absurd c99 (by omega)) (fun c99 => ?_)
      clear hz98
      refine h_vret rfl rfl (h_Kn ?_)
      refine h_aload_n (pc' := 133) rfl rfl rfl ?_
      refine h_getI (pc' := 136) (v := 4) rfl rfl rfl rfl rfl es97.2.2.2.2.1 (fun z100 hz100 => ?_)
      refine h_zle (tg := 140) (pc' := 139) rfl rfl rfl hz100 (fun c101 => absurd c101 (by omega)) (fun c101 => ?_)
      clear hz100
      refine d_toL (g_inj ns) hlw82 hRw82 (fun lvw102 memw102 hlw102 hRw102 => ?_)
      show h_T g_P (g_Y ns) 56 180 [(0, .ref 63), (1, .int x1)] [] s73 _
      exact h_wk [(0, .ref 63)] ⟨rfl, trivial⟩ (kx1 _ _ Is73 Is97 Fs73 Fs97 (Int.le_antisymm (by omega) (by omega)) (Int.le_antisymm (by omega) (by omega)) (Int.le_antisymm (by omega) (by omega)) (by omega) (by omega) ⟨⟨by omega, by omega⟩, ⟨by omega, by omega⟩, Int.le_antisymm (by omega) (by omega), Int.le_antisymm (by omega) (by omega)⟩ _ _ (h_al_ok ⟨rfl, trivial⟩ hlw102) hRw102)
