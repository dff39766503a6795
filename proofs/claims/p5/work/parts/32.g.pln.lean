set_option maxHeartbeats 100000000 in
theorem ls_pln {ns : Nat} {σ1 σ2 : h_S} (hI1 : h_I σ1) (hI2 : h_I σ2) (hTL : d_tape σ1 σ2) (x1 : Int32) (a1 : Int) (hx1 : x1.toInt = a1) (y1 : Int32) (c1 : Int) (hy1 : y1.toInt = c1) (pr0 : σ1 64 2 = σ2 98 15) (pr1 : σ1 64 4 = σ2 98 16) (pr2 : σ1 63 2 = σ2 98 13) (pr3 : σ1 66 8 = σ2 98 5) (pr4 : σ1 66 9 = σ2 98 6) (pr5 : σ1 66 10 = σ2 101 43) (pr6 : σ1 69 2 = σ2 101 18) (pr7 : σ1 72 2 = σ2 101 25) (pr8 : σ1 63 5 = σ2 98 7) (pr9 : σ1 64 2 ≤ σ1 64 1) (pr10 : d_RD σ1 σ2) (pr11 : a1 = c1) (pr12 : a1 = 7) (pc0 : ((σ1 63 2 = 0) ∧ (σ2 98 13 = 0))) {cs1 cs2 : List d_Fr} {Q : d_Q} (kx0 : ∀ (s t : h_S), h_I s → h_I t → h_F (k_in k_pl) s σ1 → h_F (k_in k_pm) t σ2 → (s 64 2 = t 98 15) → (s 64 4 = t 98 16) → (s 63 2 = t 98 13) → (s 64 2 ≤ s 64 1) → (σ1 64 2 ≤ s 64 2) → (d_ok s t) → (((1 ≤ s 63 2 ∧ s 63 2 ≤ 6) ∧ (1 ≤ t 98 13 ∧ t 98 13 ≤ 6) ∧ (s 63 2 = t 98 13) ∧ (s 63 3 = t 98 14)) ∨ ((s 63 2 = 0) ∧ (s 64 3 = 3) ∧ (t 98 13 = 0) ∧ (t 98 17 = 3) ∧ (s 64 4 < s 64 2) ∧ (σ1 64 2 < s 64 2))) → ∀ lv2 mem2, h_loc [(0, .ref 98)] lv2 → h_R (g_Y ns) t mem2 → h_T g_P (g_Y ns) 56 180 [(0, .ref 63)] [] s (d_cs g_P (g_Y ns) cs1 (d_L g_P (g_Y ns) (154, 165, lv2, []) cs2 mem2 Q))) (kx1 : ∀ (s t : h_S), h_I s → h_I t → h_F (k_in k_pl) s σ1 → h_F (k_in k_pm) t σ2 → (s 64 2 = t 98 15) → (s 64 4 = t 98 16) → (s 63 2 = t 98 13) → (s 64 2 ≤ s 64 1) → (σ1 64 2 ≤ s 64 2) → (((1 ≤ s 63 2 ∧ s 63 2 ≤ 6) ∧ (1 ≤ t 98 13 ∧ t 98 13 ≤ 6) ∧ (s 63 2 = t 98 13) ∧ (s 63 3 = t 98 14))) → ∀ lv2 mem2, h_loc [(0, .ref 98)] lv2 → h_R (g_Y ns) t mem2 → h_T g_P (g_Y ns) 56 180 [(0, .ref 63)] [] s (d_cs g_P (g_Y ns) cs1 (d_L g_P (g_Y ns) (154, 139, lv2, []) cs2 mem2 Q))) : ∀ lv2 mem2, h_loc [(0, .ref 98), (1, .int y1)] lv2 → h_R (g_Y ns) σ2 mem2 → h_T g_P (g_Y ns) 56 123 [(0, .ref 63), (1, .int x1)] [] σ1 (d_cs g_P (g_Y ns) cs1 (d_L g_P (g_Y ns) (154, 23, lv2, []) cs2 mem2 Q)) := by
  intro lv2 mem2 hl2 hR2
  have hT := hTL.1
  have hL := hTL.2
  have F1 : h_F (k_in k_pl) σ1 σ1 := h_F.rf
  have F2 : h_F (k_in k_pm) σ2 σ2 := h_F.rf
  have ge0 := tf_64_1 hI1
  have ge1 := tf_66_8 hI1
  have ge2 := tf_66_9 hI1
  have ge3 := tf_66_10 hI1
  have ge4 := tf_69_2 hI1
  have ge5 := tf_72_2 hI1
  have ge6 := tf_63_5 hI1
  have ge7 := tf_63_2 hI1
  have ge8 := tf_98_8 hI2
  have ge9 := tf_98_9 hI2
  have ge10 := tf_98_13 hI2
  rcases pc0 with pc0
  · show h_T g_P (g_Y ns) 56 123 [(0, .ref 63), (1, .int x1)] [] σ1 _
    refine h_aload_n (pc' := 124) rfl rfl rfl ?_
    refine d_call (g_inj ns) (pc' := 127) (m := 62) (M := [(0, .ref 63)]) (rest := []) ⟨false, _, _, _, _, _, _, rfl, rfl, rfl, rfl, rfl, rfl, rfl⟩ (fun lv1 hlv1 => ?_)
    refine h_aload_n (pc' := 1) rfl rfl rfl ?_
    refine h_getI (pc' := 4) (v := σ1 63 5) rfl rfl rfl rfl rfl rfl (fun z2 hz2 => ?_)
    have tz2 := tf_63_5 hI1
    refine h_zeq (tg := 19) (pc' := 7) rfl rfl rfl hz2 (fun c3 => ?_) (fun c3 => ?_)
    · clear hz2
      refine h_aload_n (pc' := 20) rfl rfl rfl ?_
      refine h_iconst (pc' := 21) (x := (Int32.ofInt 1)) rfl rfl rfl ?_
      refine h_put (pc' := 24) rfl rfl rfl rfl rfl rfl ci_1 (h_fb ci_1 (by omega)) (h_fgt (E := fun s => s 64 2 = σ1 64 2 ∧ s 64 4 = σ1 64 4 ∧ s 64 3 = σ1 64 3 ∧ s 64 5 = σ1 64 5 ∧ s 63 2 = σ1 63 2 ∧ s 63 3 = σ1 63 3 ∧ s 64 1 = σ1 64 1 ∧ s 66 8 = σ1 66 8 ∧ s 66 9 = σ1 66 9 ∧ s 66 10 = σ1 66 10 ∧ s 69 2 = σ1 69 2 ∧ s 72 2 = σ1 72 2 ∧ s 63 5 = 1 ∧ s = h_up σ1 63 5 1) _ (if_63_5 hI1 (by omega)) (F1.up rfl) ⟨rfl, rfl, rfl, rfl, rfl, rfl, rfl, rfl, rfl, rfl, rfl, rfl, rfl, rfl⟩ (fun s4 Is4 Fs4 (es4 : s4 64 2 = σ1 64 2 ∧ s4 64 4 = σ1 64 4 ∧ s4 64 3 = σ1 64 3 ∧ s4 64 5 = σ1 64 5 ∧ s4 63 2 = σ1 63 2 ∧ s4 63 3 = σ1 63 3 ∧ s4 64 1 = σ1 64 1 ∧ s4 66 8 = σ1 66 8 ∧ s4 66 9 = σ1 66 9 ∧ s4 66 10 = σ1 66 10 ∧ s4 69 2 = σ1 69 2 ∧ s4 72 2 = σ1 72 2 ∧ s4 63 5 = 1 ∧ s4 = h_up σ1 63 5 1) => ?_))
      refine h_aload_n (pc' := 25) rfl rfl rfl ?_
      refine d_toM (g_inj ns) hl2 hR2 (fun lvw5 memw5 hlw5 hRw5 => ?_)
      show h_T g_P (g_Y ns) 154 23 [(0, .ref 98), (1, .int y1)] [] σ2 _
      refine h_iload_n (pc' := 24) rfl rfl rfl ?_
      refine h_iconst (pc' := 25) (x := (Int32.ofInt 3)) rfl rfl rfl ?_
      refine h_cgt (tg := 37) (pc' := 28) rfl rfl rfl hy1 ci_3 (fun c6 => ?_) (fun c6 => absurd c6 (by omega))
      refine h_iload_n (pc' := 38) rfl rfl rfl ?_
      refine h_iconst (pc' := 39) (x := (Int32.ofInt 4)) rfl rfl rfl ?_
      refine h_cne (tg := 53) (pc' := 42) rfl rfl rfl hy1 ci_4 (fun c7 => ?_) (fun c7 => absurd c7 (by omega))
      refine h_iload_n (pc' := 54) rfl rfl rfl ?_
      refine h_iconst (pc' := 55) (x := (Int32.ofInt 5)) rfl rfl rfl ?_
      refine h_cne (tg := 69) (pc' := 58) rfl rfl rfl hy1 ci_5 (fun c8 => ?_) (fun c8 => absurd c8 (by omega))
      refine h_iload_n (pc' := 70) rfl rfl rfl ?_
      refine h_bipush (pc' := 72) (x := (Int32.ofInt 6)) rfl rfl cb_6 ?_
      refine h_cne (tg := 88) (pc' := 75) rfl rfl rfl hy1 ci_6 (fun c9 => ?_) (fun c9 => absurd c9 (by omega))
      refine h_iload_n (pc' := 89) rfl rfl rfl ?_
      refine h_bipush (pc' := 91) (x := (Int32.ofInt 7)) rfl rfl cb_7 ?_
      refine h_cne (tg := 106) (pc' := 94) rfl rfl rfl hy1 ci_7 (fun c10 => absurd c10 (by omega)) (fun c10 => ?_)
      refine h_aload_n (pc' := 95) rfl rfl rfl ?_
      refine h_getI (pc' := 98) (v := σ2 98 7) rfl rfl rfl rfl rfl rfl (fun z11 hz11 => ?_)
      have tz11 := tf_98_7 hI2
      refine h_zeq (tg := 106) (pc' := 101) rfl rfl rfl hz11 (fun c12 => ?_) (fun c12 => absurd c12 (by omega))
      clear hz11
      refine h_aload_n (pc' := 107) rfl rfl rfl ?_
      refine h_aload_n (pc' := 108) rfl rfl rfl ?_
      refine h_getI (pc' := 111) (v := σ2 98 7) rfl rfl rfl rfl rfl rfl (fun z13 hz13 => ?_)
      refine h_zne (tg := 120) (pc' := 114) rfl rfl rfl hz13 (fun c14 => absurd c14 (by omega)) (fun c14 => ?_)
      clear hz13
      refine h_iload_n (pc' := 115) rfl rfl rfl ?_
      refine h_bipush (pc' := 117) (x := (Int32.ofInt 7)) rfl rfl cb_7 ?_
      refine h_cne (tg := 124) (pc' := 120) rfl rfl rfl hy1 ci_7 (fun c15 => absurd c15 (by omega)) (fun c15 => ?_)
      refine h_iconst (pc' := 121) (x := (Int32.ofInt 1)) rfl rfl rfl ?_
      refine h_goto (pc' := 125) rfl rfl ?_
      refine h_put (pc' := 128) rfl rfl rfl rfl rfl rfl ci_1 (h_fb ci_1 (by omega)) (h_fgt (E := fun s => s 98 15 = σ2 98 15 ∧ s 98 16 = σ2 98 16 ∧ s 98 17 = σ2 98 17 ∧ s 98 18 = σ2 98 18 ∧ s 98 13 = σ2 98 13 ∧ s 98 14 = σ2 98 14 ∧ s 98 5 = σ2 98 5 ∧ s 98 6 = σ2 98 6 ∧ s 98 7 = 1 ∧ s 98 8 = σ2 98 8 ∧ s 98 9 = σ2 98 9 ∧ s 101 18 = σ2 101 18 ∧ s 101 25 = σ2 101 25 ∧ s 101 43 = σ2 101 43 ∧ s = h_up σ2 98 7 1) _ (if_98_7 hI2 (by omega)) (F2.up rfl) ⟨rfl, rfl, rfl, rfl, rfl, rfl, rfl, rfl, rfl, rfl, rfl, rfl, rfl, rfl, rfl⟩ (fun s16 Is16 Fs16 (es16 : s16 98 15 = σ2 98 15 ∧ s16 98 16 = σ2 98 16 ∧ s16 98 17 = σ2 98 17 ∧ s16 98 18 = σ2 98 18 ∧ s16 98 13 = σ2 98 13 ∧ s16 98 14 = σ2 98 14 ∧ s16 98 5 = σ2 98 5 ∧ s16 98 6 = σ2 98 6 ∧ s16 98 7 = 1 ∧ s16 98 8 = σ2 98 8 ∧ s16 98 9 = σ2 98 9 ∧ s16 101 18 = σ2 101 18 ∧ s16 101 25 = σ2 101 25 ∧ s16 101 43 = σ2 101 43 ∧ s16 = h_up σ2 98 7 1) => ?_))
      refine h_aload_n (pc' := 129) rfl rfl rfl ?_
      refine d_pcall (g_inj ns) (m1 := 54) (pc1' := 28) (M1 := [(0, .ref 63)]) (rest1 := []) (m2 := 148) (pc2' := 132) (M2 := [(0, .ref 98)]) (rest2 := []) ⟨false, _, _, _, _, _, _, rfl, rfl, rfl, rfl, rfl, rfl, rfl⟩ ⟨false, _, _, _, _, _, _, rfl, rfl, rfl, rfl, rfl, rfl, rfl⟩ hRw5 ?_
      refine pp_step Is4 Is16 (hTL.fr (Fs4.mono rfl) (Fs16.mono rfl)) (by omega) (by omega) (by omega) (by omega) (Or.inr ⟨by omega, by omega⟩) (fun sq17 tq17 Isq17 Itq17 Gsq17 Gtq17 yq17_0 yq17_1 yq17_2 yq17_3 yq17_4 pcq17 memq17 hRq17 => ?_)
      have Fsq17 := (Gsq17.mono (B := k_pl) rfl).tr Fs4
      have Ftq17 := (Gtq17.mono (B := k_pm) rfl).tr Fs16
      have esq17_6 : sq17 64 1 = σ1 64 1 := (Gsq17 64 1 rfl).trans es4.2.2.2.2.2.2.1
      have esq17_7 : sq17 66 8 = σ1 66 8 := (Gsq17 66 8 rfl).trans es4.2.2.2.2.2.2.2.1
      have esq17_8 : sq17 66 9 = σ1 66 9 := (Gsq17 66 9 rfl).trans es4.2.2.2.2.2.2.2.2.1
      have esq17_9 : sq17 66 10 = σ1 66 10 := (Gsq17 66 10 rfl).trans es4.2.2.2.2.2.2.2.2.2.1
      have esq17_10 : sq17 69 2 = σ1 69 2 := (Gsq17 69 2 rfl).trans es4.2.2.2.2.2.2.2.2.2.2.1
      have esq17_11 : sq17 72 2 = σ1 72 2 := (Gsq17 72 2 rfl).trans es4.2.2.2.2.2.2.2.2.2.2.2.1
      have esq17_12 : sq17 63 5 = 1 := (Gsq17 63 5 rfl).trans es4.2.2.2.2.2.2.2.2.2.2.2.2.1
      have etq17_6 : tq17 98 5 = σ2 98 5 := (Gtq17 98 5 rfl).trans es16.2.2.2.2.2.2.1
      have etq17_7 : tq17 98 6 = σ2 98 6 := (Gtq17 98 6 rfl).trans es16.2.2.2.2.2.2.2.1
      have etq17_8 : tq17 98 7 = 1 := (Gtq17 98 7 rfl).trans es16.2.2.2.2.2.2.2.2.1
      have etq17_9 : tq17 98 8 = σ2 98 8 := (Gtq17 98 8 rfl).trans es16.2.2.2.2.2.2.2.2.2.1
      have etq17_10 : tq17 98 9 = σ2 98 9 := (Gtq17 98 9 rfl).trans es16.2.2.2.2.2.2.2.2.2.2.1
      have etq17_11 : tq17 101 18 = σ2 101 18 := (Gtq17 101 18 rfl).trans es16.2.2.2.2.2.2.2.2.2.2.2.1
      have etq17_12 : tq17 101 25 = σ2 101 25 := (Gtq17 101 25 rfl).trans es16.2.2.2.2.2.2.2.2.2.2.2.2.1
      have etq17_13 : tq17 101 43 = σ2 101 43 := (Gtq17 101 43 rfl).trans es16.2.2.2.2.2.2.2.2.2.2.2.2.2.1
      show h_T g_P (g_Y ns) 154 132 [(0, .ref 98), (1, .int y1)] [] tq17 _
      refine h_aload_n (pc' := 133) rfl rfl rfl ?_
      refine h_getI (pc' := 136) (v := tq17 98 13) rfl rfl rfl rfl rfl rfl (fun z18 hz18 => ?_)
      have tz18 := tf_98_13 Itq17
      refine h_zle (tg := 140) (pc' := 139) rfl rfl rfl hz18 (fun c19 => ?_) (fun c19 => ?_)
      · clear hz18
        refine h_aload_n (pc' := 141) rfl rfl rfl ?_
        refine h_iload_n (pc' := 142) rfl rfl rfl ?_
        refine d_call (g_inj ns) (pc' := 145) (m := 153) (M := [(0, .ref 98), (1, .int y1)]) (rest := []) ⟨false, _, _, _, _, _, _, rfl, rfl, rfl, rfl, rfl, rfl, rfl⟩ (fun lv20 hlv20 => ?_)
        refine h_iload_n (pc' := 1) rfl rfl rfl ?_
        refine h_iconst (pc' := 2) (x := (Int32.ofInt 3)) rfl rfl rfl ?_
        refine h_cgt (tg := 61) (pc' := 5) rfl rfl rfl hy1 ci_3 (fun c21 => ?_) (fun c21 => absurd c21 (by omega))
        refine h_iload_n (pc' := 62) rfl rfl rfl ?_
        refine h_iconst (pc' := 63) (x := (Int32.ofInt 4)) rfl rfl rfl ?_
        refine h_cne (tg := 82) (pc' := 66) rfl rfl rfl hy1 ci_4 (fun c22 => ?_) (fun c22 => absurd c22 (by omega))
        refine h_iload_n (pc' := 83) rfl rfl rfl ?_
        refine h_iconst (pc' := 84) (x := (Int32.ofInt 5)) rfl rfl rfl ?_
        refine h_cne (tg := 103) (pc' := 87) rfl rfl rfl hy1 ci_5 (fun c23 => ?_) (fun c23 => absurd c23 (by omega))
        refine h_iload_n (pc' := 104) rfl rfl rfl ?_
        refine h_bipush (pc' := 106) (x := (Int32.ofInt 6)) rfl rfl cb_6 ?_
        refine h_cne (tg := 174) (pc' := 109) rfl rfl rfl hy1 ci_6 (fun c24 => ?_) (fun c24 => absurd c24 (by omega))
        refine h_aload_n (pc' := 175) rfl rfl rfl ?_
        refine d_call (g_inj ns) (pc' := 178) (m := 152) (M := [(0, .ref 98)]) (rest := []) ⟨false, _, _, _, _, _, _, rfl, rfl, rfl, rfl, rfl, rfl, rfl⟩ (fun lv25 hlv25 => ?_)
        refine d_toL (g_inj ns) hlw5 hRq17 (fun lvw26 memw26 hlw26 hRw26 => ?_)
        show h_T g_P (g_Y ns) 62 28 [(0, .ref 63)] [] sq17 _
        refine h_iconst (pc' := 29) (x := (Int32.ofInt 0)) rfl rfl rfl ?_
        refine h_istore_n (pc' := 30) (M := [(1, .int (Int32.ofInt 0)), (0, .ref 63)]) rfl rfl rfl rfl ?_
        refine h_wk [(0, .ref 63), (1, .int (Int32.ofInt 0))] ⟨rfl, rfl, trivial⟩ (lp_pl Isq17 Itq17 (hTL.fr (Fsq17.mono rfl) (Ftq17.mono rfl)) (fun sq27 tq27 Isq27 Itq27 Gsq27 Gtq27   yq27_0 yq27_1 yq27_2 yq27_3 yq27_4 yq27_5 yq27_6 yq27_7 pcq27 lvq27 memq27 hlq27 hRq27 => ?_) 100000 _ _ Isq17 Itq17 h_F.rf h_F.rf (Int32.ofInt 0) _ ci_0  (by omega) (by omega) (by omega) (by omega) (by omega) (by omega) (by omega) (by omega) (by omega) (fun _ => d_mk (esq17_7) (esq17_8) (esq17_9) (esq17_10) (esq17_11) (esq17_12) (fun j => (Gsq17 67 j rfl).trans ((h_upo es4.2.2.2.2.2.2.2.2.2.2.2.2.2 rfl j))) (fun j => (Gsq17 68 j rfl).trans ((h_upo es4.2.2.2.2.2.2.2.2.2.2.2.2.2 rfl j))) (fun j => (Gsq17 70 j rfl).trans ((h_upo es4.2.2.2.2.2.2.2.2.2.2.2.2.2 rfl j))) (fun j => (Gsq17 71 j rfl).trans ((h_upo es4.2.2.2.2.2.2.2.2.2.2.2.2.2 rfl j))) (fun j => (Gsq17 73 j rfl).trans ((h_upo es4.2.2.2.2.2.2.2.2.2.2.2.2.2 rfl j))) (fun j => (Gsq17 74 j rfl).trans ((h_upo es4.2.2.2.2.2.2.2.2.2.2.2.2.2 rfl j))) (fun j => (Gsq17 75 j rfl).trans ((h_upo es4.2.2.2.2.2.2.2.2.2.2.2.2.2 rfl j))) (fun j => (Gsq17 76 j rfl).trans ((h_upo es4.2.2.2.2.2.2.2.2.2.2.2.2.2 rfl j))) (fun j => (Gsq17 77 j rfl).trans ((h_upo es4.2.2.2.2.2.2.2.2.2.2.2.2.2 rfl j))) (fun j => (Gsq17 78 j rfl).trans ((h_upo es4.2.2.2.2.2.2.2.2.2.2.2.2.2 rfl j))) (etq17_6) (etq17_7) (etq17_8) (etq17_9) (etq17_10) (fun j => (Gtq17 101 j rfl).trans ((h_upo es16.2.2.2.2.2.2.2.2.2.2.2.2.2.2 rfl j))) (r_pt pr10)) (pcq17.elim (fun pcq17 => (by exfalso; omega)) (fun pcq17 => (pcq17.elim (fun pcq17 => (Or.inr (Or.inl ⟨by omega, by omega, by omega, by omega, by omega⟩))) (fun pcq17 => (pcq17.elim (fun pcq17 => (Or.inr (Or.inr (Or.inl ⟨by omega, by omega, by omega, by omega, by omega⟩)))) (fun pcq17 => (pcq17.elim (fun pcq17 => (Or.inr (Or.inr (Or.inr (Or.inl ⟨by omega, by omega, by omega, by omega, by omega, by omega, by omega, by omega⟩))))) (fun pcq17 => (Or.inr (Or.inr (Or.inr (Or.inr ⟨by omega, by omega, by omega, by omega, by omega⟩)))))))))))) (by omega) _ _ (h_al_ok ⟨rfl, trivial⟩ hlw26) hRw26)
        · have Fsq27 := (Gsq27.mono (B := k_pl) rfl).tr Fsq17
          have Ftq27 := (Gtq27.mono (B := k_pm) rfl).tr Ftq17
          have Isq27 := Isq27
          have Itq27 := Itq27
          have Gsq27 := Gsq27
          have Gtq27 := Gtq27
          have esq27_6 : sq27 64 1 = σ1 64 1 := (Gsq27 64 1 rfl).trans esq17_6
          rcases pcq27 with pcq27 | pcq27
          · show h_T g_P (g_Y ns) 62 53 [(0, .ref 63)] [] sq27 _
            refine h_vret rfl rfl (d_retn hlv1 ?_)
            refine h_goto (pc' := 150) rfl rfl ?_
            refine h_aload_n (pc' := 151) rfl rfl rfl ?_
            refine h_getI (pc' := 154) (v := sq27 63 2) rfl rfl rfl rfl rfl rfl (fun z28 hz28 => ?_)
            have tz28 := tf_63_2 Isq27
            refine h_zne (tg := 180) (pc' := 157) rfl rfl rfl hz28 (fun c29 => ?_) (fun c29 => absurd c29 (by omega))
            clear hz28
            refine d_toM (g_inj ns) hlq27 hRq27 (fun lvw30 memw30 hlw30 hRw30 => ?_)
            show h_T g_P (g_Y ns) 152 167 [(0, .ref 98)] [] tq27 _
            refine h_vret rfl rfl (d_retn hlv25 ?_)
            refine h_vret rfl rfl (d_retn hlv20 ?_)
            refine h_aload_n (pc' := 146) rfl rfl rfl ?_
            refine h_getI (pc' := 149) (v := tq27 98 13) rfl rfl rfl rfl rfl rfl (fun z31 hz31 => ?_)
            have tz31 := tf_98_13 Itq27
            refine h_zne (tg := 165) (pc' := 152) rfl rfl rfl hz31 (fun c32 => ?_) (fun c32 => absurd c32 (by omega))
            clear hz31
            refine d_toL (g_inj ns) hlw30 hRw30 (fun lvw33 memw33 hlw33 hRw33 => ?_)
            show h_T g_P (g_Y ns) 56 180 [(0, .ref 63), (1, .int x1)] [] sq27 _
            exact h_wk [(0, .ref 63)] ⟨rfl, trivial⟩ (kx0 _ _ Isq27 Itq27 Fsq27 Ftq27 (by omega) (by omega) (by omega) (by omega) (by omega) (fun h => absurd h (by omega)) (Or.inl ⟨by omega, by omega, by omega, by omega⟩) _ _ (h_al_ok ⟨rfl, trivial⟩ hlw33) hRw33)
          · show h_T g_P (g_Y ns) 62 53 [(0, .ref 63)] [] sq27 _
            refine h_vret rfl rfl (d_retn hlv1 ?_)
            refine h_goto (pc' := 150) rfl rfl ?_
            refine d_toM (g_inj ns) hlq27 hRq27 (fun lvw34 memw34 hlw34 hRw34 => ?_)
            show h_T g_P (g_Y ns) 152 167 [(0, .ref 98)] [] tq27 _
            refine h_vret rfl rfl (d_retn hlv25 ?_)
            refine h_vret rfl rfl (d_retn hlv20 ?_)
            refine d_toL (g_inj ns) hlw34 hRw34 (fun lvw35 memw35 hlw35 hRw35 => ?_)
            show h_T g_P (g_Y ns) 56 150 [(0, .ref 63), (1, .int x1)] [] sq27 _
            refine h_wk [(0, .ref 63)] ⟨rfl, trivial⟩ (ls_sc Isq27 Itq27 (hTL.fr (Fsq27.mono rfl) (Ftq27.mono rfl))   (by omega) (by omega) (by omega) (by omega) (yq27_5) (pcq27.elim (fun pcq27 => (Or.inl ⟨by omega, by omega, by omega, by omega, by omega⟩)) (fun pcq27 => (pcq27.elim (fun pcq27 => (Or.inr (Or.inl ⟨by omega, by omega, by omega, by omega, by omega⟩))) (fun pcq27 => (pcq27.elim (fun pcq27 => (Or.inr (Or.inr (Or.inl ⟨by omega, by omega, by omega, by omega, by omega, by omega, by omega, by omega⟩)))) (fun pcq27 => (Or.inr (Or.inr (Or.inr ⟨by omega, by omega, by omega, by omega, by omega⟩))))))))) (fun sq36 tq36 Isq36 Itq36 Gsq36 Gtq36   yq36_0 yq36_1 yq36_2 yq36_3 yq36_4 yq36_5 pcq36 lvq36 memq36 hlq36 hRq36 => ?_) _ _ (h_al_ok ⟨rfl, trivial⟩ hlw35) hRw35)
            · have Fsq36 := (Gsq36.mono (B := k_pl) rfl).tr Fsq27
              have Ftq36 := (Gtq36.mono (B := k_pm) rfl).tr Ftq27
              have Isq36 := Isq36
              have Itq36 := Itq36
              have Gsq36 := Gsq36
              have Gtq36 := Gtq36
              have esq36_6 : sq36 64 1 = σ1 64 1 := (Gsq36 64 1 rfl).trans esq27_6
              rcases pcq36 with pcq36 | pcq36
              · show h_T g_P (g_Y ns) 56 180 [(0, .ref 63)] [] sq36 _
                refine d_toM (g_inj ns) hlq36 hRq36 (fun lvw37 memw37 hlw37 hRw37 => ?_)
                show h_T g_P (g_Y ns) 154 165 [(0, .ref 98)] [] tq36 _
                refine d_toL (g_inj ns) hlw37 hRw37 (fun lvw38 memw38 hlw38 hRw38 => ?_)
                show h_T g_P (g_Y ns) 56 180 [(0, .ref 63)] [] sq36 _
                exact h_wk [(0, .ref 63)] ⟨rfl, trivial⟩ (kx0 _ _ Isq36 Itq36 Fsq36 Ftq36 (by omega) (by omega) (by omega) (by omega) (by omega) (fun h => absurd h (by omega)) (Or.inl ⟨by omega, by omega, by omega, by omega⟩) _ _ (h_al_ok ⟨rfl, trivial⟩ hlw38) hRw38)
              · show h_T g_P (g_Y ns) 56 180 [(0, .ref 63)] [] sq36 _
                refine d_toM (g_inj ns) hlq36 hRq36 (fun lvw39 memw39 hlw39 hRw39 => ?_)
                show h_T g_P (g_Y ns) 154 165 [(0, .ref 98)] [] tq36 _
                refine d_toL (g_inj ns) hlw39 hRw39 (fun lvw40 memw40 hlw40 hRw40 => ?_)
                show h_T g_P (g_Y ns) 56 180 [(0, .ref 63)] [] sq36 _
                exact h_wk [(0, .ref 63)] ⟨rfl, trivial⟩ (kx0 _ _ Isq36 Itq36 Fsq36 Ftq36 (by omega) (by omega) (by omega) (by omega) (by omega) (yq36_5) (Or.inr ⟨by omega, by omega, by omega, by omega, by omega, by omega⟩) _ _ (h_al_ok ⟨rfl, trivial⟩ hlw40) hRw40)
      · clear hz18
        refine d_toL (g_inj ns) hlw5 hRq17 (fun lvw41 memw41 hlw41 hRw41 => ?_)
        show h_T g_P (g_Y ns) 62 28 [(0, .ref 63)] [] sq17 _
        refine h_iconst (pc' := 29) (x := (Int32.ofInt 0)) rfl rfl rfl ?_
        refine h_istore_n (pc' := 30) (M := [(1, .int (Int32.ofInt 0)), (0, .ref 63)]) rfl rfl rfl rfl ?_
        refine h_iload_n (pc' := 31) rfl rfl rfl ?_
        refine h_bipush (pc' := 33) (x := (Int32.ofInt 8)) rfl rfl cb_8 ?_
        refine h_cgt (tg := 53) (pc' := 36) rfl rfl rfl ci_0 ci_8 (fun c42 => absurd c42 (by omega)) (fun c42 => ?_)
        refine h_aload_n (pc' := 37) rfl rfl rfl ?_
        refine h_call (sp := false) (pc' := 40) (M := [(0, .ref 63)]) rfl rfl rfl rfl rfl rfl rfl rfl ?_
        refine h_aload_n (pc' := 1) rfl rfl rfl ?_
        refine h_getI (pc' := 4) (v := sq17 63 2) rfl rfl rfl rfl rfl rfl (fun z43 hz43 => ?_)
        have tz43 := tf_63_2 Isq17
        refine h_zne (tg := 22) (pc' := 7) rfl rfl rfl hz43 (fun c44 => ?_) (fun c44 => absurd c44 (by omega))
        clear hz43
        refine h_iconst (pc' := 23) (x := (Int32.ofInt 0)) rfl rfl rfl ?_
        refine h_zret rfl rfl ci_0 (by omega) (h_Kv ?_)
        refine h_zeq (tg := 53) (pc' := 43) rfl rfl rfl ci_0 (fun c45 => ?_) (fun c45 => absurd c45 (by omega))
        refine h_vret rfl rfl (d_retn hlv1 ?_)
        refine h_goto (pc' := 150) rfl rfl ?_
        refine h_aload_n (pc' := 151) rfl rfl rfl ?_
        refine h_getI (pc' := 154) (v := sq17 63 2) rfl rfl rfl rfl rfl rfl (fun z46 hz46 => ?_)
        refine h_zne (tg := 180) (pc' := 157) rfl rfl rfl hz46 (fun c47 => ?_) (fun c47 => absurd c47 (by omega))
        clear hz46
        exact h_wk [(0, .ref 63)] ⟨rfl, trivial⟩ (kx1 _ _ Isq17 Itq17 Fsq17 Ftq17 (by omega) (by omega) (by omega) (by omega) (by omega) (pcq17.elim (fun pcq17 => ⟨by omega, by omega, by omega, by omega⟩) (fun pcq17 => (pcq17.elim (fun pcq17 => (by exfalso; omega)) (fun pcq17 => (pcq17.elim (fun pcq17 => (by exfalso; omega)) (fun pcq17 => (pcq17.elim (fun pcq17 => (by exfalso; omega)) (fun pcq17 => (by exfalso; omega))))))))) _ _ (h_al_ok ⟨rfl, trivial⟩ hlw41) hRw41)
    · clear hz2
      refine h_aload_n (pc' := 8) rfl rfl rfl ?_
      refine h_iconst (pc' := 9) (x := (Int32.ofInt 4)) rfl rfl rfl ?_
      refine h_aload_n (pc' := 10) rfl rfl rfl ?_
      refine h_getR (pc' := 13) rfl rfl rfl rfl rfl ?_
      refine h_getI (pc' := 16) (v := σ1 64 4) rfl rfl rfl rfl rfl rfl (fun z48 hz48 => ?_)
      have tz48 := tf_64_4 hI1
      refine h_call (sp := false) (pc' := 19) (M := [(0, .ref 63), (1, .int (Int32.ofInt 4)), (2, .int z48)]) rfl rfl rfl rfl rfl rfl rfl rfl ?_
      refine h_aload_n (pc' := 1) rfl rfl rfl ?_
      refine h_getI (pc' := 4) (v := σ1 63 2) rfl rfl rfl rfl rfl rfl (fun z49 hz49 => ?_)
      have tz49 := tf_63_2 hI1
      refine h_zne (tg := 17) (pc' := 7) rfl rfl rfl hz49 (fun c50 => absurd c50 (by omega)) (fun c50 => ?_)
      clear hz49
      refine h_aload_n (pc' := 8) rfl rfl rfl ?_
      refine h_iload_n (pc' := 9) rfl rfl rfl ?_
      refine h_put (pc' := 12) rfl rfl rfl rfl rfl rfl ci_4 rfl (h_fgt (E := fun s => s 64 2 = σ1 64 2 ∧ s 64 4 = σ1 64 4 ∧ s 64 3 = σ1 64 3 ∧ s 64 5 = σ1 64 5 ∧ s 63 2 = 4 ∧ s 63 3 = σ1 63 3 ∧ s 64 1 = σ1 64 1 ∧ s 66 8 = σ1 66 8 ∧ s 66 9 = σ1 66 9 ∧ s 66 10 = σ1 66 10 ∧ s 69 2 = σ1 69 2 ∧ s 72 2 = σ1 72 2 ∧ s 63 5 = σ1 63 5 ∧ s = h_up σ1 63 2 4) _ (if_63_2 hI1 (by omega)) (F1.up rfl) ⟨rfl, rfl, rfl, rfl, rfl, rfl, rfl, rfl, rfl, rfl, rfl, rfl, rfl, rfl⟩ (fun s51 Is51 Fs51 (es51 : s51 64 2 = σ1 64 2 ∧ s51 64 4 = σ1 64 4 ∧ s51 64 3 = σ1 64 3 ∧ s51 64 5 = σ1 64 5 ∧ s51 63 2 = 4 ∧ s51 63 3 = σ1 63 3 ∧ s51 64 1 = σ1 64 1 ∧ s51 66 8 = σ1 66 8 ∧ s51 66 9 = σ1 66 9 ∧ s51 66 10 = σ1 66 10 ∧ s51 69 2 = σ1 69 2 ∧ s51 72 2 = σ1 72 2 ∧ s51 63 5 = σ1 63 5 ∧ s51 = h_up σ1 63 2 4) => ?_))
      refine h_aload_n (pc' := 13) rfl rfl rfl ?_
      refine h_iload_n (pc' := 14) rfl rfl rfl ?_
      refine h_put (pc' := 17) rfl rfl rfl rfl rfl rfl hz48 rfl (h_fgt (E := fun s => s 64 2 = σ1 64 2 ∧ s 64 4 = σ1 64 4 ∧ s 64 3 = σ1 64 3 ∧ s 64 5 = σ1 64 5 ∧ s 63 2 = 4 ∧ s 63 3 = (σ1 64 4) ∧ s 64 1 = σ1 64 1 ∧ s 66 8 = σ1 66 8 ∧ s 66 9 = σ1 66 9 ∧ s 66 10 = σ1 66 10 ∧ s 69 2 = σ1 69 2 ∧ s 72 2 = σ1 72 2 ∧ s 63 5 = σ1 63 5 ∧ s = h_up s51 63 3 (σ1 64 4)) _ (if_63_3 Is51 (h_rgv hz48)) (Fs51.up rfl) ⟨es51.1, es51.2.1, es51.2.2.1, es51.2.2.2.1, es51.2.2.2.2.1, rfl, es51.2.2.2.2.2.2.1, es51.2.2.2.2.2.2.2.1, es51.2.2.2.2.2.2.2.2.1, es51.2.2.2.2.2.2.2.2.2.1, es51.2.2.2.2.2.2.2.2.2.2.1, es51.2.2.2.2.2.2.2.2.2.2.2.1, es51.2.2.2.2.2.2.2.2.2.2.2.2.1, rfl⟩ (fun s52 Is52 Fs52 (es52 : s52 64 2 = σ1 64 2 ∧ s52 64 4 = σ1 64 4 ∧ s52 64 3 = σ1 64 3 ∧ s52 64 5 = σ1 64 5 ∧ s52 63 2 = 4 ∧ s52 63 3 = (σ1 64 4) ∧ s52 64 1 = σ1 64 1 ∧ s52 66 8 = σ1 66 8 ∧ s52 66 9 = σ1 66 9 ∧ s52 66 10 = σ1 66 10 ∧ s52 69 2 = σ1 69 2 ∧ s52 72 2 = σ1 72 2 ∧ s52 63 5 = σ1 63 5 ∧ s52 = h_up s51 63 3 (σ1 64 4)) => ?_))
      refine h_vret rfl rfl (h_Kn ?_)
      refine h_aload_n (pc' := 20) rfl rfl rfl ?_
      refine h_iconst (pc' := 21) (x := (Int32.ofInt 1)) rfl rfl rfl ?_
      refine h_put (pc' := 24) rfl rfl rfl rfl rfl rfl ci_1 (h_fb ci_1 (by omega)) (h_fgt (E := fun s => s 64 2 = σ1 64 2 ∧ s 64 4 = σ1 64 4 ∧ s 64 3 = σ1 64 3 ∧ s 64 5 = σ1 64 5 ∧ s 63 2 = 4 ∧ s 63 3 = (σ1 64 4) ∧ s 64 1 = σ1 64 1 ∧ s 66 8 = σ1 66 8 ∧ s 66 9 = σ1 66 9 ∧ s 66 10 = σ1 66 10 ∧ s 69 2 = σ1 69 2 ∧ s 72 2 = σ1 72 2 ∧ s 63 5 = 1 ∧ s = h_up s52 63 5 1) _ (if_63_5 Is52 (by omega)) (Fs52.up rfl) ⟨es52.1, es52.2.1, es52.2.2.1, es52.2.2.2.1, es52.2.2.2.2.1, es52.2.2.2.2.2.1, es52.2.2.2.2.2.2.1, es52.2.2.2.2.2.2.2.1, es52.2.2.2.2.2.2.2.2.1, es52.2.2.2.2.2.2.2.2.2.1, es52.2.2.2.2.2.2.2.2.2.2.1, es52.2.2.2.2.2.2.2.2.2.2.2.1, rfl, rfl⟩ (fun s53 Is53 Fs53 (es53 : s53 64 2 = σ1 64 2 ∧ s53 64 4 = σ1 64 4 ∧ s53 64 3 = σ1 64 3 ∧ s53 64 5 = σ1 64 5 ∧ s53 63 2 = 4 ∧ s53 63 3 = (σ1 64 4) ∧ s53 64 1 = σ1 64 1 ∧ s53 66 8 = σ1 66 8 ∧ s53 66 9 = σ1 66 9 ∧ s53 66 10 = σ1 66 10 ∧ s53 69 2 = σ1 69 2 ∧ s53 72 2 = σ1 72 2 ∧ s53 63 5 = 1 ∧ s53 = h_up s52 63 5 1) => ?_))
      refine h_aload_n (pc' := 25) rfl rfl rfl ?_
      refine h_call (sp := false) (pc' := 28) (M := [(0, .ref 63)]) rfl rfl rfl rfl rfl rfl rfl rfl ?_
      refine h_aload_n (pc' := 1) rfl rfl rfl ?_
      refine h_getI (pc' := 4) (v := 4) rfl rfl rfl rfl rfl es53.2.2.2.2.1 (fun z54 hz54 => ?_)
      refine h_zne (tg := 37) (pc' := 7) rfl rfl rfl hz54 (fun c55 => ?_) (fun c55 => absurd c55 (by omega))
      clear hz54
      refine h_vret rfl rfl (h_Kn ?_)
      refine h_iconst (pc' := 29) (x := (Int32.ofInt 0)) rfl rfl rfl ?_
      refine h_istore_n (pc' := 30) (M := [(1, .int (Int32.ofInt 0)), (0, .ref 63)]) rfl rfl rfl rfl ?_
      refine h_iload_n (pc' := 31) rfl rfl rfl ?_
      refine h_bipush (pc' := 33) (x := (Int32.ofInt 8)) rfl rfl cb_8 ?_
      refine h_cgt (tg := 53) (pc' := 36) rfl rfl rfl ci_0 ci_8 (fun c56 => absurd c56 (by omega)) (fun c56 => ?_)
      refine h_aload_n (pc' := 37) rfl rfl rfl ?_
      refine h_call (sp := false) (pc' := 40) (M := [(0, .ref 63)]) rfl rfl rfl rfl rfl rfl rfl rfl ?_
      refine h_aload_n (pc' := 1) rfl rfl rfl ?_
      refine h_getI (pc' := 4) (v := 4) rfl rfl rfl rfl rfl es53.2.2.2.2.1 (fun z57 hz57 => ?_)
      refine h_zne (tg := 22) (pc' := 7) rfl rfl rfl hz57 (fun c58 => ?_) (fun c58 => absurd c58 (by omega))
      clear hz57
      refine h_iconst (pc' := 23) (x := (Int32.ofInt 0)) rfl rfl rfl ?_
      refine h_zret rfl rfl ci_0 (by omega) (h_Kv ?_)
      refine h_zeq (tg := 53) (pc' := 43) rfl rfl rfl ci_0 (fun c59 => ?_) (fun c59 => absurd c59 (by omega))
      refine h_vret rfl rfl (d_retn hlv1 ?_)
      refine h_goto (pc' := 150) rfl rfl ?_
      refine h_aload_n (pc' := 151) rfl rfl rfl ?_
      refine h_getI (pc' := 154) (v := 4) rfl rfl rfl rfl rfl es53.2.2.2.2.1 (fun z60 hz60 => ?_)
      refine h_zne (tg := 180) (pc' := 157) rfl rfl rfl hz60 (fun c61 => ?_) (fun c61 => absurd c61 (by omega))
      clear hz60
      refine d_toM (g_inj ns) hl2 hR2 (fun lvw62 memw62 hlw62 hRw62 => ?_)
      show h_T g_P (g_Y ns) 154 23 [(0, .ref 98), (1, .int y1)] [] σ2 _
      refine h_iload_n (pc' := 24) rfl rfl rfl ?_
      refine h_iconst (pc' := 25) (x := (Int32.ofInt 3)) rfl rfl rfl ?_
      refine h_cgt (tg := 37) (pc' := 28) rfl rfl rfl hy1 ci_3 (fun c63 => ?_) (fun c63 => absurd c63 (by omega))
      refine h_iload_n (pc' := 38) rfl rfl rfl ?_
      refine h_iconst (pc' := 39) (x := (Int32.ofInt 4)) rfl rfl rfl ?_
      refine h_cne (tg := 53) (pc' := 42) rfl rfl rfl hy1 ci_4 (fun c64 => ?_) (fun c64 => absurd c64 (by omega))
      refine h_iload_n (pc' := 54) rfl rfl rfl ?_
      refine h_iconst (pc' := 55) (x := (Int32.ofInt 5)) rfl rfl rfl ?_
      refine h_cne (tg := 69) (pc' := 58) rfl rfl rfl hy1 ci_5 (fun c65 => ?_) (fun c65 => absurd c65 (by omega))
      refine h_iload_n (pc' := 70) rfl rfl rfl ?_
      refine h_bipush (pc' := 72) (x := (Int32.ofInt 6)) rfl rfl cb_6 ?_
      refine h_cne (tg := 88) (pc' := 75) rfl rfl rfl hy1 ci_6 (fun c66 => ?_) (fun c66 => absurd c66 (by omega))
      refine h_iload_n (pc' := 89) rfl rfl rfl ?_
      refine h_bipush (pc' := 91) (x := (Int32.ofInt 7)) rfl rfl cb_7 ?_
      refine h_cne (tg := 106) (pc' := 94) rfl rfl rfl hy1 ci_7 (fun c67 => absurd c67 (by omega)) (fun c67 => ?_)
      refine h_aload_n (pc' := 95) rfl rfl rfl ?_
      refine h_getI (pc' := 98) (v := σ2 98 7) rfl rfl rfl rfl rfl rfl (fun z68 hz68 => ?_)
      have tz68 := tf_98_7 hI2
      refine h_zeq (tg := 106) (pc' := 101) rfl rfl rfl hz68 (fun c69 => absurd c69 (by omega)) (fun c69 => ?_)
      clear hz68
      refine h_aload_n (pc' := 102) rfl rfl rfl ?_
      refine h_iconst (pc' := 103) (x := (Int32.ofInt 4)) rfl rfl rfl ?_
      refine h_call (sp := false) (pc' := 106) (M := [(0, .ref 98), (1, .int (Int32.ofInt 4))]) rfl rfl rfl rfl rfl rfl rfl rfl ?_
      refine h_aload_n (pc' := 1) rfl rfl rfl ?_
      refine h_getI (pc' := 4) (v := σ2 98 13) rfl rfl rfl rfl rfl rfl (fun z70 hz70 => ?_)
      have tz70 := tf_98_13 hI2
      refine h_zne (tg := 20) (pc' := 7) rfl rfl rfl hz70 (fun c71 => absurd c71 (by omega)) (fun c71 => ?_)
      clear hz70
      refine h_aload_n (pc' := 8) rfl rfl rfl ?_
      refine h_iload_n (pc' := 9) rfl rfl rfl ?_
      refine h_put (pc' := 12) rfl rfl rfl rfl rfl rfl ci_4 rfl (h_fgt (E := fun s => s 98 15 = σ2 98 15 ∧ s 98 16 = σ2 98 16 ∧ s 98 17 = σ2 98 17 ∧ s 98 18 = σ2 98 18 ∧ s 98 13 = 4 ∧ s 98 14 = σ2 98 14 ∧ s 98 5 = σ2 98 5 ∧ s 98 6 = σ2 98 6 ∧ s 98 7 = σ2 98 7 ∧ s 98 8 = σ2 98 8 ∧ s 98 9 = σ2 98 9 ∧ s 101 18 = σ2 101 18 ∧ s 101 25 = σ2 101 25 ∧ s 101 43 = σ2 101 43 ∧ s = h_up σ2 98 13 4) _ (if_98_13 hI2 (by omega)) (F2.up rfl) ⟨rfl, rfl, rfl, rfl, rfl, rfl, rfl, rfl, rfl, rfl, rfl, rfl, rfl, rfl, rfl⟩ (fun s72 Is72 Fs72 (es72 : s72 98 15 = σ2 98 15 ∧ s72 98 16 = σ2 98 16 ∧ s72 98 17 = σ2 98 17 ∧ s72 98 18 = σ2 98 18 ∧ s72 98 13 = 4 ∧ s72 98 14 = σ2 98 14 ∧ s72 98 5 = σ2 98 5 ∧ s72 98 6 = σ2 98 6 ∧ s72 98 7 = σ2 98 7 ∧ s72 98 8 = σ2 98 8 ∧ s72 98 9 = σ2 98 9 ∧ s72 101 18 = σ2 101 18 ∧ s72 101 25 = σ2 101 25 ∧ s72 101 43 = σ2 101 43 ∧ s72 = h_up σ2 98 13 4) => ?_))
      refine h_aload_n (pc' := 13) rfl rfl rfl ?_
      refine h_aload_n (pc' := 14) rfl rfl rfl ?_
      refine h_getI (pc' := 17) (v := σ2 98 16) rfl rfl rfl rfl rfl es72.2.1 (fun z73 hz73 => ?_)
      have tz73 := tf_98_16 hI2
      refine h_put (pc' := 20) rfl rfl rfl rfl rfl rfl hz73 rfl (h_fgt (E := fun s => s 98 15 = σ2 98 15 ∧ s 98 16 = σ2 98 16 ∧ s 98 17 = σ2 98 17 ∧ s 98 18 = σ2 98 18 ∧ s 98 13 = 4 ∧ s 98 14 = (σ2 98 16) ∧ s 98 5 = σ2 98 5 ∧ s 98 6 = σ2 98 6 ∧ s 98 7 = σ2 98 7 ∧ s 98 8 = σ2 98 8 ∧ s 98 9 = σ2 98 9 ∧ s 101 18 = σ2 101 18 ∧ s 101 25 = σ2 101 25 ∧ s 101 43 = σ2 101 43 ∧ s = h_up s72 98 14 (σ2 98 16)) _ (if_98_14 Is72 (h_rgv hz73)) (Fs72.up rfl) ⟨es72.1, es72.2.1, es72.2.2.1, es72.2.2.2.1, es72.2.2.2.2.1, rfl, es72.2.2.2.2.2.2.1, es72.2.2.2.2.2.2.2.1, es72.2.2.2.2.2.2.2.2.1, es72.2.2.2.2.2.2.2.2.2.1, es72.2.2.2.2.2.2.2.2.2.2.1, es72.2.2.2.2.2.2.2.2.2.2.2.1, es72.2.2.2.2.2.2.2.2.2.2.2.2.1, es72.2.2.2.2.2.2.2.2.2.2.2.2.2.1, rfl⟩ (fun s74 Is74 Fs74 (es74 : s74 98 15 = σ2 98 15 ∧ s74 98 16 = σ2 98 16 ∧ s74 98 17 = σ2 98 17 ∧ s74 98 18 = σ2 98 18 ∧ s74 98 13 = 4 ∧ s74 98 14 = (σ2 98 16) ∧ s74 98 5 = σ2 98 5 ∧ s74 98 6 = σ2 98 6 ∧ s74 98 7 = σ2 98 7 ∧ s74 98 8 = σ2 98 8 ∧ s74 98 9 = σ2 98 9 ∧ s74 101 18 = σ2 101 18 ∧ s74 101 25 = σ2 101 25 ∧ s74 101 43 = σ2 101 43 ∧ s74 = h_up s72 98 14 (σ2 98 16)) => ?_))
      refine h_vret rfl rfl (h_Kn ?_)
      refine h_aload_n (pc' := 107) rfl rfl rfl ?_
      refine h_aload_n (pc' := 108) rfl rfl rfl ?_
      refine h_getI (pc' := 111) (v := σ2 98 7) rfl rfl rfl rfl rfl es74.2.2.2.2.2.2.2.2.1 (fun z75 hz75 => ?_)
      refine h_zne (tg := 120) (pc' := 114) rfl rfl rfl hz75 (fun c76 => ?_) (fun c76 => absurd c76 (by omega))
      clear hz75
      refine h_iconst (pc' := 121) (x := (Int32.ofInt 1)) rfl rfl rfl ?_
      refine h_goto (pc' := 125) rfl rfl ?_
      refine h_put (pc' := 128) rfl rfl rfl rfl rfl rfl ci_1 (h_fb ci_1 (by omega)) (h_fgt (E := fun s => s 98 15 = σ2 98 15 ∧ s 98 16 = σ2 98 16 ∧ s 98 17 = σ2 98 17 ∧ s 98 18 = σ2 98 18 ∧ s 98 13 = 4 ∧ s 98 14 = (σ2 98 16) ∧ s 98 5 = σ2 98 5 ∧ s 98 6 = σ2 98 6 ∧ s 98 7 = 1 ∧ s 98 8 = σ2 98 8 ∧ s 98 9 = σ2 98 9 ∧ s 101 18 = σ2 101 18 ∧ s 101 25 = σ2 101 25 ∧ s 101 43 = σ2 101 43 ∧ s = h_up s74 98 7 1) _ (if_98_7 Is74 (by omega)) (Fs74.up rfl) ⟨es74.1, es74.2.1, es74.2.2.1, es74.2.2.2.1, es74.2.2.2.2.1, es74.2.2.2.2.2.1, es74.2.2.2.2.2.2.1, es74.2.2.2.2.2.2.2.1, rfl, es74.2.2.2.2.2.2.2.2.2.1, es74.2.2.2.2.2.2.2.2.2.2.1, es74.2.2.2.2.2.2.2.2.2.2.2.1, es74.2.2.2.2.2.2.2.2.2.2.2.2.1, es74.2.2.2.2.2.2.2.2.2.2.2.2.2.1, rfl⟩ (fun s77 Is77 Fs77 (es77 : s77 98 15 = σ2 98 15 ∧ s77 98 16 = σ2 98 16 ∧ s77 98 17 = σ2 98 17 ∧ s77 98 18 = σ2 98 18 ∧ s77 98 13 = 4 ∧ s77 98 14 = (σ2 98 16) ∧ s77 98 5 = σ2 98 5 ∧ s77 98 6 = σ2 98 6 ∧ s77 98 7 = 1 ∧ s77 98 8 = σ2 98 8 ∧ s77 98 9 = σ2 98 9 ∧ s77 101 18 = σ2 101 18 ∧ s77 101 25 = σ2 101 25 ∧ s77 101 43 = σ2 101 43 ∧ s77 = h_up s74 98 7 1) => ?_))
      refine h_aload_n (pc' := 129) rfl rfl rfl ?_
      refine h_call (sp := false) (pc' := 132) (M := [(0, .ref 98)]) rfl rfl rfl rfl rfl rfl rfl rfl ?_
      refine h_aload_n (pc' := 1) rfl rfl rfl ?_
      refine h_getI (pc' := 4) (v := 4) rfl rfl rfl rfl rfl es77.2.2.2.2.1 (fun z78 hz78 => ?_)
      refine h_zle (tg := 8) (pc' := 7) rfl rfl rfl hz78 (fun c79 => absurd c79 (by omega)) (fun c79 => ?_)
      clear hz78
      refine h_vret rfl rfl (h_Kn ?_)
      refine h_aload_n (pc' := 133) rfl rfl rfl ?_
      refine h_getI (pc' := 136) (v := 4) rfl rfl rfl rfl rfl es77.2.2.2.2.1 (fun z80 hz80 => ?_)
      refine h_zle (tg := 140) (pc' := 139) rfl rfl rfl hz80 (fun c81 => absurd c81 (by omega)) (fun c81 => ?_)
      clear hz80
      refine d_toL (g_inj ns) hlw62 hRw62 (fun lvw82 memw82 hlw82 hRw82 => ?_)
      show h_T g_P (g_Y ns) 56 180 [(0, .ref 63), (1, .int x1)] [] s53 _
      exact h_wk [(0, .ref 63)] ⟨rfl, trivial⟩ (kx1 _ _ Is53 Is77 Fs53 Fs77 (by omega) (by omega) (by omega) (by omega) (by omega) ⟨by omega, by omega, by omega, by omega⟩ _ _ (h_al_ok ⟨rfl, trivial⟩ hlw82) hRw82)
