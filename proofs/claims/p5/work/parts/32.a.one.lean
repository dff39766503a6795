set_option maxHeartbeats 100000000 in
theorem ls_one {ns : Nat} {σ1 σ2 : h_S} (hI1 : h_I σ1) (hI2 : h_I σ2) (hTL : d_tape σ1 σ2) (x1 : Int32) (a1 : Int) (hx1 : x1.toInt = a1) (y1 : Int32) (c1 : Int) (hy1 : y1.toInt = c1) (pr0 : σ1 64 2 = σ2 98 15) (pr1 : σ1 64 4 = σ2 98 16) (pr2 : σ1 63 2 = σ2 98 13) (pr3 : σ1 66 8 = σ2 98 5) (pr4 : σ1 66 9 = σ2 98 6) (pr5 : σ1 66 10 = σ2 101 43) (pr6 : σ1 69 2 = σ2 101 18) (pr7 : σ1 72 2 = σ2 101 25) (pr8 : σ1 63 5 = σ2 98 7) (pr9 : σ1 64 2 ≤ σ1 64 1) (pr10 : a1 = c1) (pr11 : 0 ≤ a1 ∧ a1 ≤ 3) (pr12 : d_RD σ1 σ2) (pc0 : ((σ1 63 2 = 0) ∧ (σ2 98 13 = 0))) {cs1 cs2 : List d_Fr} {Q : d_Q} (kx0 : ∀ (s t : h_S), h_I s → h_I t → h_F (k_in k_px) s σ1 → h_F (k_in k_pm) t σ2 → (s 64 2 = t 98 15) → (s 64 4 = t 98 16) → (s 63 2 = t 98 13) → (s 64 2 ≤ s 64 1) → (σ1 64 2 ≤ s 64 2) → (d_ok s t) → (((1 ≤ s 63 2 ∧ s 63 2 ≤ 6) ∧ (1 ≤ t 98 13 ∧ t 98 13 ≤ 6) ∧ (s 63 2 = t 98 13) ∧ (s 63 3 = t 98 14)) ∨ ((s 63 2 = 0) ∧ (s 64 3 = 0) ∧ (t 98 13 = 0) ∧ (t 98 17 = 0) ∧ (s 64 4 = s 64 1)) ∨ ((s 63 2 = 0) ∧ (s 64 3 = 1) ∧ (t 98 13 = 0) ∧ (t 98 17 = 1) ∧ (s 64 4 < s 64 2) ∧ (σ1 64 2 < s 64 2)) ∨ ((s 63 2 = 0) ∧ (s 64 3 = 2) ∧ (t 98 13 = 0) ∧ (t 98 17 = 2) ∧ (0 ≤ s 64 5 ∧ s 64 5 ≤ 99) ∧ (0 ≤ t 98 18 ∧ t 98 18 ≤ 99) ∧ (s 64 5 = t 98 18) ∧ (s 64 4 < s 64 2) ∧ (σ1 64 2 < s 64 2)) ∨ ((s 63 2 = 0) ∧ (s 64 3 = 3) ∧ (t 98 13 = 0) ∧ (t 98 17 = 3) ∧ (s 64 4 < s 64 2) ∧ (σ1 64 2 < s 64 2))) → ∀ lv2 mem2, h_loc [(0, .ref 98)] lv2 → h_R (g_Y ns) t mem2 → h_T g_P (g_Y ns) 56 150 [(0, .ref 63)] [] s (d_cs g_P (g_Y ns) cs1 (d_L g_P (g_Y ns) (154, 145, lv2, []) cs2 mem2 Q))) (kx1 : ∀ (s t : h_S), h_I s → h_I t → h_F (k_in k_px) s σ1 → h_F (k_in k_pm) t σ2 → (s 64 2 = t 98 15) → (s 64 4 = t 98 16) → (s 63 2 = t 98 13) → (s 64 2 ≤ s 64 1) → (σ1 64 2 ≤ s 64 2) → (((1 ≤ s 63 2 ∧ s 63 2 ≤ 6) ∧ (1 ≤ t 98 13 ∧ t 98 13 ≤ 6) ∧ (s 63 2 = t 98 13) ∧ (s 63 3 = t 98 14))) → ∀ lv2 mem2, h_loc [(0, .ref 98)] lv2 → h_R (g_Y ns) t mem2 → h_T g_P (g_Y ns) 56 150 [(0, .ref 63)] [] s (d_cs g_P (g_Y ns) cs1 (d_L g_P (g_Y ns) (154, 139, lv2, []) cs2 mem2 Q))) : ∀ lv2 mem2, h_loc [(0, .ref 98), (1, .int y1)] lv2 → h_R (g_Y ns) σ2 mem2 → h_T g_P (g_Y ns) 56 145 [(0, .ref 63), (1, .int x1)] [] σ1 (d_cs g_P (g_Y ns) cs1 (d_L g_P (g_Y ns) (154, 23, lv2, []) cs2 mem2 Q)) := by
  intro lv2 mem2 hl2 hR2
  have hT := hTL.1
  have hL := hTL.2
  have F1 : h_F (k_in k_px) σ1 σ1 := h_F.rf
  have F2 : h_F (k_in k_pm) σ2 σ2 := h_F.rf
  have ge0 := tf_64_1 hI1
  have ge1 := tf_66_8 hI1
  have ge2 := tf_66_9 hI1
  have ge3 := tf_66_10 hI1
  have ge4 := tf_69_2 hI1
  have ge5 := tf_72_2 hI1
  have ge6 := tf_63_5 hI1
  have ge7 := tf_98_8 hI2
  have ge8 := tf_98_9 hI2
  rcases pc0 with pc0
  · show h_T g_P (g_Y ns) 56 145 [(0, .ref 63), (1, .int x1)] [] σ1 _
    refine h_aload_n (pc' := 146) rfl rfl rfl ?_
    refine h_iload_n (pc' := 147) rfl rfl rfl ?_
    refine d_call (g_inj ns) (pc' := 150) (m := 59) (M := [(0, .ref 63), (1, .int x1)]) (rest := []) ⟨false, _, _, _, _, _, _, rfl, rfl, rfl, rfl, rfl, rfl, rfl⟩ (fun lv1 hlv1 => ?_)
    refine h_aload_n (pc' := 1) rfl rfl rfl ?_
    refine h_aload_n (pc' := 2) rfl rfl rfl ?_
    refine h_getR (pc' := 5) rfl rfl rfl rfl rfl ?_
    refine h_getI (pc' := 8) (v := σ1 66 8) rfl rfl rfl rfl rfl rfl (fun z2 hz2 => ?_)
    have tz2 := tf_66_8 hI1
    refine h_bipush (pc' := 10) (x := (Int32.ofInt 6)) rfl rfl cb_6 ?_
    refine h_clt (tg := 17) (pc' := 13) rfl rfl rfl hz2 ci_6 (fun c3 => ?_) (fun c3 => ?_)
    · clear hz2
      refine h_iconst (pc' := 18) (x := (Int32.ofInt 0)) rfl rfl rfl ?_
      refine d_call (g_inj ns) (pc' := 21) (m := 57) (M := [(0, .ref 63), (1, .int (Int32.ofInt 0))]) (rest := []) ⟨false, _, _, _, _, _, _, rfl, rfl, rfl, rfl, rfl, rfl, rfl⟩ (fun lv4 hlv4 => ?_)
      refine h_iload_n (pc' := 1) rfl rfl rfl ?_
      refine h_zeq (tg := 16) (pc' := 4) rfl rfl rfl ci_0 (fun c5 => ?_) (fun c5 => absurd c5 (by omega))
      refine h_aload_n (pc' := 17) rfl rfl rfl ?_
      refine d_toM (g_inj ns) hl2 hR2 (fun lvw6 memw6 hlw6 hRw6 => ?_)
      show h_T g_P (g_Y ns) 154 23 [(0, .ref 98), (1, .int y1)] [] σ2 _
      refine h_iload_n (pc' := 24) rfl rfl rfl ?_
      refine h_iconst (pc' := 25) (x := (Int32.ofInt 3)) rfl rfl rfl ?_
      refine h_cgt (tg := 37) (pc' := 28) rfl rfl rfl hy1 ci_3 (fun c7 => absurd c7 (by omega)) (fun c7 => ?_)
      refine h_aload_n (pc' := 29) rfl rfl rfl ?_
      refine h_getI (pc' := 32) (v := σ2 98 5) rfl rfl rfl rfl rfl rfl (fun z8 hz8 => ?_)
      have tz8 := tf_98_5 hI2
      refine h_bipush (pc' := 34) (x := (Int32.ofInt 6)) rfl rfl cb_6 ?_
      refine h_ceq (tg := 83) (pc' := 37) rfl rfl rfl hz8 ci_6 (fun c9 => absurd c9 (by omega)) (fun c9 => ?_)
      clear hz8
      refine h_iload_n (pc' := 38) rfl rfl rfl ?_
      refine h_iconst (pc' := 39) (x := (Int32.ofInt 4)) rfl rfl rfl ?_
      refine h_cne (tg := 53) (pc' := 42) rfl rfl rfl hy1 ci_4 (fun c10 => ?_) (fun c10 => absurd c10 (by omega))
      refine h_iload_n (pc' := 54) rfl rfl rfl ?_
      refine h_iconst (pc' := 55) (x := (Int32.ofInt 5)) rfl rfl rfl ?_
      refine h_cne (tg := 69) (pc' := 58) rfl rfl rfl hy1 ci_5 (fun c11 => ?_) (fun c11 => absurd c11 (by omega))
      refine h_iload_n (pc' := 70) rfl rfl rfl ?_
      refine h_bipush (pc' := 72) (x := (Int32.ofInt 6)) rfl rfl cb_6 ?_
      refine h_cne (tg := 88) (pc' := 75) rfl rfl rfl hy1 ci_6 (fun c12 => ?_) (fun c12 => absurd c12 (by omega))
      refine h_iload_n (pc' := 89) rfl rfl rfl ?_
      refine h_bipush (pc' := 91) (x := (Int32.ofInt 7)) rfl rfl cb_7 ?_
      refine h_cne (tg := 106) (pc' := 94) rfl rfl rfl hy1 ci_7 (fun c13 => ?_) (fun c13 => absurd c13 (by omega))
      refine h_aload_n (pc' := 107) rfl rfl rfl ?_
      refine h_aload_n (pc' := 108) rfl rfl rfl ?_
      refine h_getI (pc' := 111) (v := σ2 98 7) rfl rfl rfl rfl rfl rfl (fun z14 hz14 => ?_)
      have tz14 := tf_98_7 hI2
      refine h_zne (tg := 120) (pc' := 114) rfl rfl rfl hz14 (fun c15 => ?_) (fun c15 => ?_)
      · clear hz14
        refine h_iconst (pc' := 121) (x := (Int32.ofInt 1)) rfl rfl rfl ?_
        refine h_goto (pc' := 125) rfl rfl ?_
        refine h_put (pc' := 128) rfl rfl rfl rfl rfl rfl ci_1 (h_fb ci_1 (by omega)) (h_fgt (E := fun s => s 98 15 = σ2 98 15 ∧ s 98 16 = σ2 98 16 ∧ s 98 17 = σ2 98 17 ∧ s 98 18 = σ2 98 18 ∧ s 98 13 = σ2 98 13 ∧ s 98 14 = σ2 98 14 ∧ s 98 5 = σ2 98 5 ∧ s 98 6 = σ2 98 6 ∧ s 98 7 = 1 ∧ s 98 8 = σ2 98 8 ∧ s 98 9 = σ2 98 9 ∧ s 101 18 = σ2 101 18 ∧ s 101 25 = σ2 101 25 ∧ s 101 43 = σ2 101 43 ∧ s = h_up σ2 98 7 1) _ (if_98_7 hI2 (by omega)) (F2.up rfl) ⟨rfl, rfl, rfl, rfl, rfl, rfl, rfl, rfl, rfl, rfl, rfl, rfl, rfl, rfl, rfl⟩ (fun s16 Is16 Fs16 (es16 : s16 98 15 = σ2 98 15 ∧ s16 98 16 = σ2 98 16 ∧ s16 98 17 = σ2 98 17 ∧ s16 98 18 = σ2 98 18 ∧ s16 98 13 = σ2 98 13 ∧ s16 98 14 = σ2 98 14 ∧ s16 98 5 = σ2 98 5 ∧ s16 98 6 = σ2 98 6 ∧ s16 98 7 = 1 ∧ s16 98 8 = σ2 98 8 ∧ s16 98 9 = σ2 98 9 ∧ s16 101 18 = σ2 101 18 ∧ s16 101 25 = σ2 101 25 ∧ s16 101 43 = σ2 101 43 ∧ s16 = h_up σ2 98 7 1) => ?_))
        refine h_aload_n (pc' := 129) rfl rfl rfl ?_
        refine d_pcall (g_inj ns) (m1 := 54) (pc1' := 20) (M1 := [(0, .ref 63)]) (rest1 := []) (m2 := 148) (pc2' := 132) (M2 := [(0, .ref 98)]) (rest2 := []) ⟨false, _, _, _, _, _, _, rfl, rfl, rfl, rfl, rfl, rfl, rfl⟩ ⟨false, _, _, _, _, _, _, rfl, rfl, rfl, rfl, rfl, rfl, rfl⟩ hRw6 ?_
        refine pp_step hI1 Is16 (hTL.fr (F1.mono rfl) (Fs16.mono rfl)) (by omega) (by omega) (by omega) (by omega) (Or.inr ⟨by omega, by omega⟩) (fun sq17 tq17 Isq17 Itq17 Gsq17 Gtq17 yq17_0 yq17_1 yq17_2 yq17_3 yq17_4 pcq17 memq17 hRq17 => ?_)
        have Fsq17 := (Gsq17.mono (B := k_px) rfl).tr F1
        have Ftq17 := (Gtq17.mono (B := k_pm) rfl).tr Fs16
        have esq17_6 : sq17 64 1 = σ1 64 1 := (Gsq17 64 1 rfl).trans rfl
        have esq17_7 : sq17 66 8 = σ1 66 8 := (Gsq17 66 8 rfl).trans rfl
        have esq17_8 : sq17 66 9 = σ1 66 9 := (Gsq17 66 9 rfl).trans rfl
        have esq17_9 : sq17 66 10 = σ1 66 10 := (Gsq17 66 10 rfl).trans rfl
        have esq17_10 : sq17 69 2 = σ1 69 2 := (Gsq17 69 2 rfl).trans rfl
        have esq17_11 : sq17 72 2 = σ1 72 2 := (Gsq17 72 2 rfl).trans rfl
        have esq17_12 : sq17 63 5 = σ1 63 5 := (Gsq17 63 5 rfl).trans rfl
        have etq17_6 : tq17 98 5 = σ2 98 5 := (Gtq17 98 5 rfl).trans es16.2.2.2.2.2.2.1
        have etq17_7 : tq17 98 6 = σ2 98 6 := (Gtq17 98 6 rfl).trans es16.2.2.2.2.2.2.2.1
        have etq17_8 : tq17 98 7 = 1 := (Gtq17 98 7 rfl).trans es16.2.2.2.2.2.2.2.2.1
        have etq17_9 : tq17 98 8 = σ2 98 8 := (Gtq17 98 8 rfl).trans es16.2.2.2.2.2.2.2.2.2.1
        have etq17_10 : tq17 98 9 = σ2 98 9 := (Gtq17 98 9 rfl).trans es16.2.2.2.2.2.2.2.2.2.2.1
        have etq17_11 : tq17 101 18 = σ2 101 18 := (Gtq17 101 18 rfl).trans es16.2.2.2.2.2.2.2.2.2.2.2.1
        have etq17_12 : tq17 101 25 = σ2 101 25 := (Gtq17 101 25 rfl).trans es16.2.2.2.2.2.2.2.2.2.2.2.2.1
        have etq17_13 : tq17 101 43 = σ2 101 43 := (Gtq17 101 43 rfl).trans es16.2.2.2.2.2.2.2.2.2.2.2.2.2.1
        rcases pcq17 with pcq17 | pcq17 | pcq17 | pcq17 | pcq17
        · show h_T g_P (g_Y ns) 154 132 [(0, .ref 98), (1, .int y1)] [] tq17 _
          refine h_aload_n (pc' := 133) rfl rfl rfl ?_
          refine h_getI (pc' := 136) (v := tq17 98 13) rfl rfl rfl rfl rfl rfl (fun z18 hz18 => ?_)
          have tz18 := tf_98_13 Itq17
          refine h_zle (tg := 140) (pc' := 139) rfl rfl rfl hz18 (fun c19 => absurd c19 (by omega)) (fun c19 => ?_)
          clear hz18
          refine d_toL (g_inj ns) hlw6 hRq17 (fun lvw20 memw20 hlw20 hRw20 => ?_)
          show h_T g_P (g_Y ns) 57 20 [(0, .ref 63), (1, .int (Int32.ofInt 0))] [] sq17 _
          refine h_vret rfl rfl (d_retn hlv4 ?_)
          refine h_aload_n (pc' := 22) rfl rfl rfl ?_
          refine h_call (sp := false) (pc' := 25) (M := [(0, .ref 63)]) rfl rfl rfl rfl rfl rfl rfl rfl ?_
          refine h_aload_n (pc' := 1) rfl rfl rfl ?_
          refine h_getI (pc' := 4) (v := sq17 63 2) rfl rfl rfl rfl rfl rfl (fun z21 hz21 => ?_)
          have tz21 := tf_63_2 Isq17
          refine h_zne (tg := 22) (pc' := 7) rfl rfl rfl hz21 (fun c22 => ?_) (fun c22 => absurd c22 (by omega))
          clear hz21
          refine h_iconst (pc' := 23) (x := (Int32.ofInt 0)) rfl rfl rfl ?_
          refine h_zret rfl rfl ci_0 (by omega) (h_Kv ?_)
          refine h_zeq (tg := 44) (pc' := 28) rfl rfl rfl ci_0 (fun c23 => ?_) (fun c23 => absurd c23 (by omega))
          refine h_bipush (pc' := 46) (x := (Int32.ofInt (-4))) rfl rfl cb_m4 ?_
          refine h_istore_n (pc' := 47) (M := [(2, .int (Int32.ofInt (-4))), (0, .ref 63), (1, .int x1)]) rfl rfl rfl rfl ?_
          refine h_aload_n (pc' := 48) rfl rfl rfl ?_
          refine h_getI (pc' := 51) (v := sq17 63 2) rfl rfl rfl rfl rfl rfl (fun z24 hz24 => ?_)
          refine h_zne (tg := 63) (pc' := 54) rfl rfl rfl hz24 (fun c25 => ?_) (fun c25 => absurd c25 (by omega))
          clear hz24
          refine h_vret rfl rfl (d_retn hlv1 ?_)
          exact h_wk [(0, .ref 63)] ⟨rfl, trivial⟩ (kx1 _ _ Isq17 Itq17 Fsq17 Ftq17 (by omega) (by omega) (by omega) (by omega) (by omega) ⟨by omega, by omega, by omega, by omega⟩ _ _ (h_al_ok ⟨rfl, trivial⟩ hlw20) hRw20)
        · show h_T g_P (g_Y ns) 154 132 [(0, .ref 98), (1, .int y1)] [] tq17 _
          refine h_aload_n (pc' := 133) rfl rfl rfl ?_
          refine h_getI (pc' := 136) (v := tq17 98 13) rfl rfl rfl rfl rfl rfl (fun z26 hz26 => ?_)
          have tz26 := tf_98_13 Itq17
          refine h_zle (tg := 140) (pc' := 139) rfl rfl rfl hz26 (fun c27 => ?_) (fun c27 => absurd c27 (by omega))
          clear hz26
          refine h_aload_n (pc' := 141) rfl rfl rfl ?_
          refine h_iload_n (pc' := 142) rfl rfl rfl ?_
          refine d_call (g_inj ns) (pc' := 145) (m := 153) (M := [(0, .ref 98), (1, .int y1)]) (rest := []) ⟨false, _, _, _, _, _, _, rfl, rfl, rfl, rfl, rfl, rfl, rfl⟩ (fun lv28 hlv28 => ?_)
          refine h_iload_n (pc' := 1) rfl rfl rfl ?_
          refine h_iconst (pc' := 2) (x := (Int32.ofInt 3)) rfl rfl rfl ?_
          refine h_cgt (tg := 61) (pc' := 5) rfl rfl rfl hy1 ci_3 (fun c29 => absurd c29 (by omega)) (fun c29 => ?_)
          refine h_aload_n (pc' := 6) rfl rfl rfl ?_
          refine h_getR (pc' := 9) rfl rfl rfl rfl rfl ?_
          refine h_aload_n (pc' := 10) rfl rfl rfl ?_
          refine h_getI (pc' := 13) (v := σ2 98 5) rfl rfl rfl rfl rfl etq17_6 (fun z30 hz30 => ?_)
          refine h_iload_n (pc' := 14) rfl rfl rfl ?_
          refine h_iast (pc' := 15) rfl rfl rfl rfl hz30 (by omega) (by omega) hy1 (h_fgt (E := fun s => s 98 15 = tq17 98 15 ∧ s 98 16 = tq17 98 16 ∧ s 98 17 = tq17 98 17 ∧ s 98 18 = tq17 98 18 ∧ s 98 13 = tq17 98 13 ∧ s 98 14 = tq17 98 14 ∧ s 98 5 = σ2 98 5 ∧ s 98 6 = σ2 98 6 ∧ s 98 7 = 1 ∧ s 98 8 = σ2 98 8 ∧ s 98 9 = σ2 98 9 ∧ s 101 18 = σ2 101 18 ∧ s 101 25 = σ2 101 25 ∧ s 101 43 = σ2 101 43 ∧ s = h_up tq17 101 (σ2 98 5) c1) _ (ip_101_0 Itq17 (by omega) (by omega)) (Ftq17.up rfl) ⟨rfl, rfl, rfl, rfl, rfl, rfl, etq17_6, etq17_7, etq17_8, etq17_9, etq17_10, h_up_n2 (by omega) etq17_11, h_up_n2 (by omega) etq17_12, h_up_n2 (by omega) etq17_13, rfl⟩ (fun s31 Is31 Fs31 (es31 : s31 98 15 = tq17 98 15 ∧ s31 98 16 = tq17 98 16 ∧ s31 98 17 = tq17 98 17 ∧ s31 98 18 = tq17 98 18 ∧ s31 98 13 = tq17 98 13 ∧ s31 98 14 = tq17 98 14 ∧ s31 98 5 = σ2 98 5 ∧ s31 98 6 = σ2 98 6 ∧ s31 98 7 = 1 ∧ s31 98 8 = σ2 98 8 ∧ s31 98 9 = σ2 98 9 ∧ s31 101 18 = σ2 101 18 ∧ s31 101 25 = σ2 101 25 ∧ s31 101 43 = σ2 101 43 ∧ s31 = h_up tq17 101 (σ2 98 5) c1) => ?_))
          clear hz30
          refine h_aload_n (pc' := 16) rfl rfl rfl ?_
          refine h_getI (pc' := 19) (v := tq17 98 17) rfl rfl rfl rfl rfl es31.2.2.1 (fun z32 hz32 => ?_)
          have tz32 := tf_98_17 Itq17
          refine h_iconst (pc' := 20) (x := (Int32.ofInt 2)) rfl rfl rfl ?_
          refine h_cne (tg := 48) (pc' := 23) rfl rfl rfl hz32 ci_2 (fun c33 => ?_) (fun c33 => absurd c33 (by omega))
          clear hz32
          refine h_aload_n (pc' := 49) rfl rfl rfl ?_
          refine h_dup (pc' := 50) rfl rfl rfl ?_
          refine h_getI (pc' := 53) (v := σ2 98 5) rfl rfl rfl rfl rfl es31.2.2.2.2.2.2.1 (fun z34 hz34 => ?_)
          refine h_iconst (pc' := 54) (x := (Int32.ofInt 1)) rfl rfl rfl ?_
          refine h_iadd (pc' := 55) rfl rfl hz34 ci_1 rfl (by omega) (by omega) (fun z35 hz35 => ?_)
          clear hz34
          refine h_put (pc' := 58) rfl rfl rfl rfl rfl rfl hz35 rfl (h_fgt (E := fun s => s 98 15 = tq17 98 15 ∧ s 98 16 = tq17 98 16 ∧ s 98 17 = tq17 98 17 ∧ s 98 18 = tq17 98 18 ∧ s 98 13 = tq17 98 13 ∧ s 98 14 = tq17 98 14 ∧ s 98 5 = ((σ2 98 5) + 1) ∧ s 98 6 = σ2 98 6 ∧ s 98 7 = 1 ∧ s 98 8 = σ2 98 8 ∧ s 98 9 = σ2 98 9 ∧ s 101 18 = σ2 101 18 ∧ s 101 25 = σ2 101 25 ∧ s 101 43 = σ2 101 43 ∧ s = h_up s31 98 5 ((σ2 98 5) + 1)) _ (if_98_5 Is31 (by omega)) (Fs31.up rfl) ⟨es31.1, es31.2.1, es31.2.2.1, es31.2.2.2.1, es31.2.2.2.2.1, es31.2.2.2.2.2.1, rfl, es31.2.2.2.2.2.2.2.1, es31.2.2.2.2.2.2.2.2.1, es31.2.2.2.2.2.2.2.2.2.1, es31.2.2.2.2.2.2.2.2.2.2.1, es31.2.2.2.2.2.2.2.2.2.2.2.1, es31.2.2.2.2.2.2.2.2.2.2.2.2.1, es31.2.2.2.2.2.2.2.2.2.2.2.2.2.1, rfl⟩ (fun s36 Is36 Fs36 (es36 : s36 98 15 = tq17 98 15 ∧ s36 98 16 = tq17 98 16 ∧ s36 98 17 = tq17 98 17 ∧ s36 98 18 = tq17 98 18 ∧ s36 98 13 = tq17 98 13 ∧ s36 98 14 = tq17 98 14 ∧ s36 98 5 = ((σ2 98 5) + 1) ∧ s36 98 6 = σ2 98 6 ∧ s36 98 7 = 1 ∧ s36 98 8 = σ2 98 8 ∧ s36 98 9 = σ2 98 9 ∧ s36 101 18 = σ2 101 18 ∧ s36 101 25 = σ2 101 25 ∧ s36 101 43 = σ2 101 43 ∧ s36 = h_up s31 98 5 ((σ2 98 5) + 1)) => ?_))
          refine h_goto (pc' := 178) rfl rfl ?_
          refine h_vret rfl rfl (d_retn hlv28 ?_)
          refine d_toL (g_inj ns) hlw6 hRq17 (fun lvw37 memw37 hlw37 hRw37 => ?_)
          show h_T g_P (g_Y ns) 57 20 [(0, .ref 63), (1, .int (Int32.ofInt 0))] [] sq17 _
          refine h_vret rfl rfl (d_retn hlv4 ?_)
          refine h_aload_n (pc' := 22) rfl rfl rfl ?_
          refine h_call (sp := false) (pc' := 25) (M := [(0, .ref 63)]) rfl rfl rfl rfl rfl rfl rfl rfl ?_
          refine h_aload_n (pc' := 1) rfl rfl rfl ?_
          refine h_getI (pc' := 4) (v := sq17 63 2) rfl rfl rfl rfl rfl rfl (fun z38 hz38 => ?_)
          have tz38 := tf_63_2 Isq17
          refine h_zne (tg := 22) (pc' := 7) rfl rfl rfl hz38 (fun c39 => absurd c39 (by omega)) (fun c39 => ?_)
          clear hz38
          refine h_aload_n (pc' := 8) rfl rfl rfl ?_
          refine h_getR (pc' := 11) rfl rfl rfl rfl rfl ?_
          refine h_getI (pc' := 14) (v := sq17 64 3) rfl rfl rfl rfl rfl rfl (fun z40 hz40 => ?_)
          have tz40 := tf_64_3 Isq17
          refine h_iconst (pc' := 15) (x := (Int32.ofInt 2)) rfl rfl rfl ?_
          refine h_cne (tg := 22) (pc' := 18) rfl rfl rfl hz40 ci_2 (fun c41 => ?_) (fun c41 => absurd c41 (by omega))
          clear hz40
          refine h_iconst (pc' := 23) (x := (Int32.ofInt 0)) rfl rfl rfl ?_
          refine h_zret rfl rfl ci_0 (by omega) (h_Kv ?_)
          refine h_zeq (tg := 44) (pc' := 28) rfl rfl rfl ci_0 (fun c42 => ?_) (fun c42 => absurd c42 (by omega))
          refine h_bipush (pc' := 46) (x := (Int32.ofInt (-4))) rfl rfl cb_m4 ?_
          refine h_istore_n (pc' := 47) (M := [(2, .int (Int32.ofInt (-4))), (0, .ref 63), (1, .int x1)]) rfl rfl rfl rfl ?_
          refine h_aload_n (pc' := 48) rfl rfl rfl ?_
          refine h_getI (pc' := 51) (v := sq17 63 2) rfl rfl rfl rfl rfl rfl (fun z43 hz43 => ?_)
          refine h_zne (tg := 63) (pc' := 54) rfl rfl rfl hz43 (fun c44 => absurd c44 (by omega)) (fun c44 => ?_)
          clear hz43
          refine h_aload_n (pc' := 55) rfl rfl rfl ?_
          refine h_getR (pc' := 58) rfl rfl rfl rfl rfl ?_
          refine h_iload_n (pc' := 59) rfl rfl rfl ?_
          refine h_iload_n (pc' := 60) rfl rfl rfl ?_
          refine h_call (sp := false) (pc' := 63) (M := [(0, .ref 66), (1, .int x1), (2, .int (Int32.ofInt (-4)))]) rfl rfl rfl rfl rfl rfl rfl rfl ?_
          refine h_aload_n (pc' := 1) rfl rfl rfl ?_
          refine h_getI (pc' := 4) (v := σ1 66 8) rfl rfl rfl rfl rfl esq17_7 (fun z45 hz45 => ?_)
          refine h_bipush (pc' := 6) (x := (Int32.ofInt 6)) rfl rfl cb_6 ?_
          refine h_cge (tg := 39) (pc' := 9) rfl rfl rfl hz45 ci_6 (fun c46 => absurd c46 (by omega)) (fun c46 => ?_)
          clear hz45
          refine h_aload_n (pc' := 10) rfl rfl rfl ?_
          refine h_getR (pc' := 13) rfl rfl rfl rfl rfl ?_
          refine h_aload_n (pc' := 14) rfl rfl rfl ?_
          refine h_getI (pc' := 17) (v := σ1 66 8) rfl rfl rfl rfl rfl esq17_7 (fun z47 hz47 => ?_)
          refine h_iload_n (pc' := 18) rfl rfl rfl ?_
          refine h_iast (pc' := 19) rfl rfl rfl rfl hz47 (by omega) (by omega) hx1 (h_fgt (E := fun s => s 64 2 = sq17 64 2 ∧ s 64 4 = sq17 64 4 ∧ s 64 3 = sq17 64 3 ∧ s 64 5 = sq17 64 5 ∧ s 63 2 = sq17 63 2 ∧ s 63 3 = sq17 63 3 ∧ s 64 1 = σ1 64 1 ∧ s 66 8 = σ1 66 8 ∧ s 66 9 = σ1 66 9 ∧ s 66 10 = σ1 66 10 ∧ s 69 2 = σ1 69 2 ∧ s 72 2 = σ1 72 2 ∧ s 63 5 = σ1 63 5 ∧ s = h_up sq17 67 (σ1 66 8) a1) _ (in_67 Isq17 (by omega)) (Fsq17.up rfl) ⟨rfl, rfl, rfl, rfl, rfl, rfl, esq17_6, esq17_7, esq17_8, esq17_9, esq17_10, esq17_11, esq17_12, rfl⟩ (fun s48 Is48 Fs48 (es48 : s48 64 2 = sq17 64 2 ∧ s48 64 4 = sq17 64 4 ∧ s48 64 3 = sq17 64 3 ∧ s48 64 5 = sq17 64 5 ∧ s48 63 2 = sq17 63 2 ∧ s48 63 3 = sq17 63 3 ∧ s48 64 1 = σ1 64 1 ∧ s48 66 8 = σ1 66 8 ∧ s48 66 9 = σ1 66 9 ∧ s48 66 10 = σ1 66 10 ∧ s48 69 2 = σ1 69 2 ∧ s48 72 2 = σ1 72 2 ∧ s48 63 5 = σ1 63 5 ∧ s48 = h_up sq17 67 (σ1 66 8) a1) => ?_))
          clear hz47
          refine h_aload_n (pc' := 20) rfl rfl rfl ?_
          refine h_getR (pc' := 23) rfl rfl rfl rfl rfl ?_
          refine h_aload_n (pc' := 24) rfl rfl rfl ?_
          refine h_getI (pc' := 27) (v := σ1 66 8) rfl rfl rfl rfl rfl es48.2.2.2.2.2.2.2.1 (fun z49 hz49 => ?_)
          refine h_iload_n (pc' := 28) rfl rfl rfl ?_
          refine h_iast (pc' := 29) rfl rfl rfl rfl hz49 (by omega) (by omega) ci_m4 (h_fgt (E := fun s => s 64 2 = sq17 64 2 ∧ s 64 4 = sq17 64 4 ∧ s 64 3 = sq17 64 3 ∧ s 64 5 = sq17 64 5 ∧ s 63 2 = sq17 63 2 ∧ s 63 3 = sq17 63 3 ∧ s 64 1 = σ1 64 1 ∧ s 66 8 = σ1 66 8 ∧ s 66 9 = σ1 66 9 ∧ s 66 10 = σ1 66 10 ∧ s 69 2 = σ1 69 2 ∧ s 72 2 = σ1 72 2 ∧ s 63 5 = σ1 63 5 ∧ s = h_up s48 68 (σ1 66 8) (-4)) _ (in_68 Is48 (by omega)) (Fs48.up rfl) ⟨es48.1, es48.2.1, es48.2.2.1, es48.2.2.2.1, es48.2.2.2.2.1, es48.2.2.2.2.2.1, es48.2.2.2.2.2.2.1, es48.2.2.2.2.2.2.2.1, es48.2.2.2.2.2.2.2.2.1, es48.2.2.2.2.2.2.2.2.2.1, es48.2.2.2.2.2.2.2.2.2.2.1, es48.2.2.2.2.2.2.2.2.2.2.2.1, es48.2.2.2.2.2.2.2.2.2.2.2.2.1, rfl⟩ (fun s50 Is50 Fs50 (es50 : s50 64 2 = sq17 64 2 ∧ s50 64 4 = sq17 64 4 ∧ s50 64 3 = sq17 64 3 ∧ s50 64 5 = sq17 64 5 ∧ s50 63 2 = sq17 63 2 ∧ s50 63 3 = sq17 63 3 ∧ s50 64 1 = σ1 64 1 ∧ s50 66 8 = σ1 66 8 ∧ s50 66 9 = σ1 66 9 ∧ s50 66 10 = σ1 66 10 ∧ s50 69 2 = σ1 69 2 ∧ s50 72 2 = σ1 72 2 ∧ s50 63 5 = σ1 63 5 ∧ s50 = h_up s48 68 (σ1 66 8) (-4)) => ?_))
          clear hz49
          refine h_aload_n (pc' := 30) rfl rfl rfl ?_
          refine h_dup (pc' := 31) rfl rfl rfl ?_
          refine h_getI (pc' := 34) (v := σ1 66 8) rfl rfl rfl rfl rfl es50.2.2.2.2.2.2.2.1 (fun z51 hz51 => ?_)
          refine h_iconst (pc' := 35) (x := (Int32.ofInt 1)) rfl rfl rfl ?_
          refine h_iadd (pc' := 36) rfl rfl hz51 ci_1 rfl (by omega) (by omega) (fun z52 hz52 => ?_)
          clear hz51
          refine h_put (pc' := 39) rfl rfl rfl rfl rfl rfl hz52 rfl (h_fgt (E := fun s => s 64 2 = sq17 64 2 ∧ s 64 4 = sq17 64 4 ∧ s 64 3 = sq17 64 3 ∧ s 64 5 = sq17 64 5 ∧ s 63 2 = sq17 63 2 ∧ s 63 3 = sq17 63 3 ∧ s 64 1 = σ1 64 1 ∧ s 66 8 = ((σ1 66 8) + 1) ∧ s 66 9 = σ1 66 9 ∧ s 66 10 = σ1 66 10 ∧ s 69 2 = σ1 69 2 ∧ s 72 2 = σ1 72 2 ∧ s 63 5 = σ1 63 5 ∧ s = h_up s50 66 8 ((σ1 66 8) + 1)) _ (if_66_8 Is50 (by omega)) (Fs50.up rfl) ⟨es50.1, es50.2.1, es50.2.2.1, es50.2.2.2.1, es50.2.2.2.2.1, es50.2.2.2.2.2.1, es50.2.2.2.2.2.2.1, rfl, es50.2.2.2.2.2.2.2.2.1, es50.2.2.2.2.2.2.2.2.2.1, es50.2.2.2.2.2.2.2.2.2.2.1, es50.2.2.2.2.2.2.2.2.2.2.2.1, es50.2.2.2.2.2.2.2.2.2.2.2.2.1, rfl⟩ (fun s53 Is53 Fs53 (es53 : s53 64 2 = sq17 64 2 ∧ s53 64 4 = sq17 64 4 ∧ s53 64 3 = sq17 64 3 ∧ s53 64 5 = sq17 64 5 ∧ s53 63 2 = sq17 63 2 ∧ s53 63 3 = sq17 63 3 ∧ s53 64 1 = σ1 64 1 ∧ s53 66 8 = ((σ1 66 8) + 1) ∧ s53 66 9 = σ1 66 9 ∧ s53 66 10 = σ1 66 10 ∧ s53 69 2 = σ1 69 2 ∧ s53 72 2 = σ1 72 2 ∧ s53 63 5 = σ1 63 5 ∧ s53 = h_up s50 66 8 ((σ1 66 8) + 1)) => ?_))
          refine h_vret rfl rfl (h_Kn ?_)
          refine h_vret rfl rfl (d_retn hlv1 ?_)
          exact h_wk [(0, .ref 63)] ⟨rfl, trivial⟩ (kx0 _ _ Is53 Is36 Fs53 Fs36 (by omega) (by omega) (by omega) (by omega) (by omega) (fun _ => d_mk (es53.2.2.2.2.2.2.2.1) (es53.2.2.2.2.2.2.2.2.1) (es53.2.2.2.2.2.2.2.2.2.1) (es53.2.2.2.2.2.2.2.2.2.2.1) (es53.2.2.2.2.2.2.2.2.2.2.2.1) (es53.2.2.2.2.2.2.2.2.2.2.2.2.1) (fun j => (h_upo es53.2.2.2.2.2.2.2.2.2.2.2.2.2 rfl j).trans ((h_upo es50.2.2.2.2.2.2.2.2.2.2.2.2.2 rfl j).trans ((h_upi es48.2.2.2.2.2.2.2.2.2.2.2.2.2 j).trans (congrArg (fun z => if j = (σ1 66 8) then a1 else z) ((Gsq17 67 j rfl)))))) (fun j => (h_upo es53.2.2.2.2.2.2.2.2.2.2.2.2.2 rfl j).trans ((h_upi es50.2.2.2.2.2.2.2.2.2.2.2.2.2 j).trans (congrArg (fun z => if j = (σ1 66 8) then (-4) else z) ((h_upo es48.2.2.2.2.2.2.2.2.2.2.2.2.2 rfl j).trans ((Gsq17 68 j rfl)))))) (fun j => (h_upo es53.2.2.2.2.2.2.2.2.2.2.2.2.2 rfl j).trans ((h_upo es50.2.2.2.2.2.2.2.2.2.2.2.2.2 rfl j).trans ((h_upo es48.2.2.2.2.2.2.2.2.2.2.2.2.2 rfl j).trans ((Gsq17 70 j rfl))))) (fun j => (h_upo es53.2.2.2.2.2.2.2.2.2.2.2.2.2 rfl j).trans ((h_upo es50.2.2.2.2.2.2.2.2.2.2.2.2.2 rfl j).trans ((h_upo es48.2.2.2.2.2.2.2.2.2.2.2.2.2 rfl j).trans ((Gsq17 71 j rfl))))) (fun j => (h_upo es53.2.2.2.2.2.2.2.2.2.2.2.2.2 rfl j).trans ((h_upo es50.2.2.2.2.2.2.2.2.2.2.2.2.2 rfl j).trans ((h_upo es48.2.2.2.2.2.2.2.2.2.2.2.2.2 rfl j).trans ((Gsq17 73 j rfl))))) (fun j => (h_upo es53.2.2.2.2.2.2.2.2.2.2.2.2.2 rfl j).trans ((h_upo es50.2.2.2.2.2.2.2.2.2.2.2.2.2 rfl j).trans ((h_upo es48.2.2.2.2.2.2.2.2.2.2.2.2.2 rfl j).trans ((Gsq17 74 j rfl))))) (fun j => (h_upo es53.2.2.2.2.2.2.2.2.2.2.2.2.2 rfl j).trans ((h_upo es50.2.2.2.2.2.2.2.2.2.2.2.2.2 rfl j).trans ((h_upo es48.2.2.2.2.2.2.2.2.2.2.2.2.2 rfl j).trans ((Gsq17 75 j rfl))))) (fun j => (h_upo es53.2.2.2.2.2.2.2.2.2.2.2.2.2 rfl j).trans ((h_upo es50.2.2.2.2.2.2.2.2.2.2.2.2.2 rfl j).trans ((h_upo es48.2.2.2.2.2.2.2.2.2.2.2.2.2 rfl j).trans ((Gsq17 76 j rfl))))) (fun j => (h_upo es53.2.2.2.2.2.2.2.2.2.2.2.2.2 rfl j).trans ((h_upo es50.2.2.2.2.2.2.2.2.2.2.2.2.2 rfl j).trans ((h_upo es48.2.2.2.2.2.2.2.2.2.2.2.2.2 rfl j).trans ((Gsq17 77 j rfl))))) (fun j => (h_upo es53.2.2.2.2.2.2.2.2.2.2.2.2.2 rfl j).trans ((h_upo es50.2.2.2.2.2.2.2.2.2.2.2.2.2 rfl j).trans ((h_upo es48.2.2.2.2.2.2.2.2.2.2.2.2.2 rfl j).trans ((Gsq17 78 j rfl))))) (es36.2.2.2.2.2.2.1) (es36.2.2.2.2.2.2.2.1) (es36.2.2.2.2.2.2.2.2.1) (es36.2.2.2.2.2.2.2.2.2.1) (es36.2.2.2.2.2.2.2.2.2.2.1) (fun j => (h_upo es36.2.2.2.2.2.2.2.2.2.2.2.2.2.2 rfl j).trans ((h_upi es31.2.2.2.2.2.2.2.2.2.2.2.2.2.2 j).trans (congrArg (fun z => if j = (σ2 98 5) then c1 else z) ((Gtq17 101 j rfl).trans ((h_upo es16.2.2.2.2.2.2.2.2.2.2.2.2.2.2 rfl j)))))) (r_one0 pr12 (by omega) (by omega) (by omega) (by omega) (by omega) (by omega) (by omega))) (Or.inr (Or.inl ⟨by omega, by omega, by omega, by omega, by omega⟩)) _ _ (h_al_ok ⟨rfl, trivial⟩ hlw37) hRw37)
        · show h_T g_P (g_Y ns) 154 132 [(0, .ref 98), (1, .int y1)] [] tq17 _
          refine h_aload_n (pc' := 133) rfl rfl rfl ?_
          refine h_getI (pc' := 136) (v := tq17 98 13) rfl rfl rfl rfl rfl rfl (fun z54 hz54 => ?_)
          have tz54 := tf_98_13 Itq17
          refine h_zle (tg := 140) (pc' := 139) rfl rfl rfl hz54 (fun c55 => ?_) (fun c55 => absurd c55 (by omega))
          clear hz54
          refine h_aload_n (pc' := 141) rfl rfl rfl ?_
          refine h_iload_n (pc' := 142) rfl rfl rfl ?_
          refine d_call (g_inj ns) (pc' := 145) (m := 153) (M := [(0, .ref 98), (1, .int y1)]) (rest := []) ⟨false, _, _, _, _, _, _, rfl, rfl, rfl, rfl, rfl, rfl, rfl⟩ (fun lv56 hlv56 => ?_)
          refine h_iload_n (pc' := 1) rfl rfl rfl ?_
          refine h_iconst (pc' := 2) (x := (Int32.ofInt 3)) rfl rfl rfl ?_
          refine h_cgt (tg := 61) (pc' := 5) rfl rfl rfl hy1 ci_3 (fun c57 => absurd c57 (by omega)) (fun c57 => ?_)
          refine h_aload_n (pc' := 6) rfl rfl rfl ?_
          refine h_getR (pc' := 9) rfl rfl rfl rfl rfl ?_
          refine h_aload_n (pc' := 10) rfl rfl rfl ?_
          refine h_getI (pc' := 13) (v := σ2 98 5) rfl rfl rfl rfl rfl etq17_6 (fun z58 hz58 => ?_)
          refine h_iload_n (pc' := 14) rfl rfl rfl ?_
          refine h_iast (pc' := 15) rfl rfl rfl rfl hz58 (by omega) (by omega) hy1 (h_fgt (E := fun s => s 98 15 = tq17 98 15 ∧ s 98 16 = tq17 98 16 ∧ s 98 17 = tq17 98 17 ∧ s 98 18 = tq17 98 18 ∧ s 98 13 = tq17 98 13 ∧ s 98 14 = tq17 98 14 ∧ s 98 5 = σ2 98 5 ∧ s 98 6 = σ2 98 6 ∧ s 98 7 = 1 ∧ s 98 8 = σ2 98 8 ∧ s 98 9 = σ2 98 9 ∧ s 101 18 = σ2 101 18 ∧ s 101 25 = σ2 101 25 ∧ s 101 43 = σ2 101 43 ∧ s = h_up tq17 101 (σ2 98 5) c1) _ (ip_101_0 Itq17 (by omega) (by omega)) (Ftq17.up rfl) ⟨rfl, rfl, rfl, rfl, rfl, rfl, etq17_6, etq17_7, etq17_8, etq17_9, etq17_10, h_up_n2 (by omega) etq17_11, h_up_n2 (by omega) etq17_12, h_up_n2 (by omega) etq17_13, rfl⟩ (fun s59 Is59 Fs59 (es59 : s59 98 15 = tq17 98 15 ∧ s59 98 16 = tq17 98 16 ∧ s59 98 17 = tq17 98 17 ∧ s59 98 18 = tq17 98 18 ∧ s59 98 13 = tq17 98 13 ∧ s59 98 14 = tq17 98 14 ∧ s59 98 5 = σ2 98 5 ∧ s59 98 6 = σ2 98 6 ∧ s59 98 7 = 1 ∧ s59 98 8 = σ2 98 8 ∧ s59 98 9 = σ2 98 9 ∧ s59 101 18 = σ2 101 18 ∧ s59 101 25 = σ2 101 25 ∧ s59 101 43 = σ2 101 43 ∧ s59 = h_up tq17 101 (σ2 98 5) c1) => ?_))
          clear hz58
          refine h_aload_n (pc' := 16) rfl rfl rfl ?_
          refine h_getI (pc' := 19) (v := tq17 98 17) rfl rfl rfl rfl rfl es59.2.2.1 (fun z60 hz60 => ?_)
          have tz60 := tf_98_17 Itq17
          refine h_iconst (pc' := 20) (x := (Int32.ofInt 2)) rfl rfl rfl ?_
          refine h_cne (tg := 48) (pc' := 23) rfl rfl rfl hz60 ci_2 (fun c61 => ?_) (fun c61 => absurd c61 (by omega))
          clear hz60
          refine h_aload_n (pc' := 49) rfl rfl rfl ?_
          refine h_dup (pc' := 50) rfl rfl rfl ?_
          refine h_getI (pc' := 53) (v := σ2 98 5) rfl rfl rfl rfl rfl es59.2.2.2.2.2.2.1 (fun z62 hz62 => ?_)
          refine h_iconst (pc' := 54) (x := (Int32.ofInt 1)) rfl rfl rfl ?_
          refine h_iadd (pc' := 55) rfl rfl hz62 ci_1 rfl (by omega) (by omega) (fun z63 hz63 => ?_)
          clear hz62
          refine h_put (pc' := 58) rfl rfl rfl rfl rfl rfl hz63 rfl (h_fgt (E := fun s => s 98 15 = tq17 98 15 ∧ s 98 16 = tq17 98 16 ∧ s 98 17 = tq17 98 17 ∧ s 98 18 = tq17 98 18 ∧ s 98 13 = tq17 98 13 ∧ s 98 14 = tq17 98 14 ∧ s 98 5 = ((σ2 98 5) + 1) ∧ s 98 6 = σ2 98 6 ∧ s 98 7 = 1 ∧ s 98 8 = σ2 98 8 ∧ s 98 9 = σ2 98 9 ∧ s 101 18 = σ2 101 18 ∧ s 101 25 = σ2 101 25 ∧ s 101 43 = σ2 101 43 ∧ s = h_up s59 98 5 ((σ2 98 5) + 1)) _ (if_98_5 Is59 (by omega)) (Fs59.up rfl) ⟨es59.1, es59.2.1, es59.2.2.1, es59.2.2.2.1, es59.2.2.2.2.1, es59.2.2.2.2.2.1, rfl, es59.2.2.2.2.2.2.2.1, es59.2.2.2.2.2.2.2.2.1, es59.2.2.2.2.2.2.2.2.2.1, es59.2.2.2.2.2.2.2.2.2.2.1, es59.2.2.2.2.2.2.2.2.2.2.2.1, es59.2.2.2.2.2.2.2.2.2.2.2.2.1, es59.2.2.2.2.2.2.2.2.2.2.2.2.2.1, rfl⟩ (fun s64 Is64 Fs64 (es64 : s64 98 15 = tq17 98 15 ∧ s64 98 16 = tq17 98 16 ∧ s64 98 17 = tq17 98 17 ∧ s64 98 18 = tq17 98 18 ∧ s64 98 13 = tq17 98 13 ∧ s64 98 14 = tq17 98 14 ∧ s64 98 5 = ((σ2 98 5) + 1) ∧ s64 98 6 = σ2 98 6 ∧ s64 98 7 = 1 ∧ s64 98 8 = σ2 98 8 ∧ s64 98 9 = σ2 98 9 ∧ s64 101 18 = σ2 101 18 ∧ s64 101 25 = σ2 101 25 ∧ s64 101 43 = σ2 101 43 ∧ s64 = h_up s59 98 5 ((σ2 98 5) + 1)) => ?_))
          refine h_goto (pc' := 178) rfl rfl ?_
          refine h_vret rfl rfl (d_retn hlv56 ?_)
          refine d_toL (g_inj ns) hlw6 hRq17 (fun lvw65 memw65 hlw65 hRw65 => ?_)
          show h_T g_P (g_Y ns) 57 20 [(0, .ref 63), (1, .int (Int32.ofInt 0))] [] sq17 _
          refine h_vret rfl rfl (d_retn hlv4 ?_)
          refine h_aload_n (pc' := 22) rfl rfl rfl ?_
          refine h_call (sp := false) (pc' := 25) (M := [(0, .ref 63)]) rfl rfl rfl rfl rfl rfl rfl rfl ?_
          refine h_aload_n (pc' := 1) rfl rfl rfl ?_
          refine h_getI (pc' := 4) (v := sq17 63 2) rfl rfl rfl rfl rfl rfl (fun z66 hz66 => ?_)
          have tz66 := tf_63_2 Isq17
          refine h_zne (tg := 22) (pc' := 7) rfl rfl rfl hz66 (fun c67 => absurd c67 (by omega)) (fun c67 => ?_)
          clear hz66
          refine h_aload_n (pc' := 8) rfl rfl rfl ?_
          refine h_getR (pc' := 11) rfl rfl rfl rfl rfl ?_
          refine h_getI (pc' := 14) (v := sq17 64 3) rfl rfl rfl rfl rfl rfl (fun z68 hz68 => ?_)
          have tz68 := tf_64_3 Isq17
          refine h_iconst (pc' := 15) (x := (Int32.ofInt 2)) rfl rfl rfl ?_
          refine h_cne (tg := 22) (pc' := 18) rfl rfl rfl hz68 ci_2 (fun c69 => ?_) (fun c69 => absurd c69 (by omega))
          clear hz68
          refine h_iconst (pc' := 23) (x := (Int32.ofInt 0)) rfl rfl rfl ?_
          refine h_zret rfl rfl ci_0 (by omega) (h_Kv ?_)
          refine h_zeq (tg := 44) (pc' := 28) rfl rfl rfl ci_0 (fun c70 => ?_) (fun c70 => absurd c70 (by omega))
          refine h_bipush (pc' := 46) (x := (Int32.ofInt (-4))) rfl rfl cb_m4 ?_
          refine h_istore_n (pc' := 47) (M := [(2, .int (Int32.ofInt (-4))), (0, .ref 63), (1, .int x1)]) rfl rfl rfl rfl ?_
          refine h_aload_n (pc' := 48) rfl rfl rfl ?_
          refine h_getI (pc' := 51) (v := sq17 63 2) rfl rfl rfl rfl rfl rfl (fun z71 hz71 => ?_)
          refine h_zne (tg := 63) (pc' := 54) rfl rfl rfl hz71 (fun c72 => absurd c72 (by omega)) (fun c72 => ?_)
          clear hz71
          refine h_aload_n (pc' := 55) rfl rfl rfl ?_
          refine h_getR (pc' := 58) rfl rfl rfl rfl rfl ?_
          refine h_iload_n (pc' := 59) rfl rfl rfl ?_
          refine h_iload_n (pc' := 60) rfl rfl rfl ?_
          refine h_call (sp := false) (pc' := 63) (M := [(0, .ref 66), (1, .int x1), (2, .int (Int32.ofInt (-4)))]) rfl rfl rfl rfl rfl rfl rfl rfl ?_
          refine h_aload_n (pc' := 1) rfl rfl rfl ?_
          refine h_getI (pc' := 4) (v := σ1 66 8) rfl rfl rfl rfl rfl esq17_7 (fun z73 hz73 => ?_)
          refine h_bipush (pc' := 6) (x := (Int32.ofInt 6)) rfl rfl cb_6 ?_
          refine h_cge (tg := 39) (pc' := 9) rfl rfl rfl hz73 ci_6 (fun c74 => absurd c74 (by omega)) (fun c74 => ?_)
          clear hz73
          refine h_aload_n (pc' := 10) rfl rfl rfl ?_
          refine h_getR (pc' := 13) rfl rfl rfl rfl rfl ?_
          refine h_aload_n (pc' := 14) rfl rfl rfl ?_
          refine h_getI (pc' := 17) (v := σ1 66 8) rfl rfl rfl rfl rfl esq17_7 (fun z75 hz75 => ?_)
          refine h_iload_n (pc' := 18) rfl rfl rfl ?_
          refine h_iast (pc' := 19) rfl rfl rfl rfl hz75 (by omega) (by omega) hx1 (h_fgt (E := fun s => s 64 2 = sq17 64 2 ∧ s 64 4 = sq17 64 4 ∧ s 64 3 = sq17 64 3 ∧ s 64 5 = sq17 64 5 ∧ s 63 2 = sq17 63 2 ∧ s 63 3 = sq17 63 3 ∧ s 64 1 = σ1 64 1 ∧ s 66 8 = σ1 66 8 ∧ s 66 9 = σ1 66 9 ∧ s 66 10 = σ1 66 10 ∧ s 69 2 = σ1 69 2 ∧ s 72 2 = σ1 72 2 ∧ s 63 5 = σ1 63 5 ∧ s = h_up sq17 67 (σ1 66 8) a1) _ (in_67 Isq17 (by omega)) (Fsq17.up rfl) ⟨rfl, rfl, rfl, rfl, rfl, rfl, esq17_6, esq17_7, esq17_8, esq17_9, esq17_10, esq17_11, esq17_12, rfl⟩ (fun s76 Is76 Fs76 (es76 : s76 64 2 = sq17 64 2 ∧ s76 64 4 = sq17 64 4 ∧ s76 64 3 = sq17 64 3 ∧ s76 64 5 = sq17 64 5 ∧ s76 63 2 = sq17 63 2 ∧ s76 63 3 = sq17 63 3 ∧ s76 64 1 = σ1 64 1 ∧ s76 66 8 = σ1 66 8 ∧ s76 66 9 = σ1 66 9 ∧ s76 66 10 = σ1 66 10 ∧ s76 69 2 = σ1 69 2 ∧ s76 72 2 = σ1 72 2 ∧ s76 63 5 = σ1 63 5 ∧ s76 = h_up sq17 67 (σ1 66 8) a1) => ?_))
          clear hz75
          refine h_aload_n (pc' := 20) rfl rfl rfl ?_
          refine h_getR (pc' := 23) rfl rfl rfl rfl rfl ?_
          refine h_aload_n (pc' := 24) rfl rfl rfl ?_
          refine h_getI (pc' := 27) (v := σ1 66 8) rfl rfl rfl rfl rfl es76.2.2.2.2.2.2.2.1 (fun z77 hz77 => ?_)
          refine h_iload_n (pc' := 28) rfl rfl rfl ?_
          refine h_iast (pc' := 29) rfl rfl rfl rfl hz77 (by omega) (by omega) ci_m4 (h_fgt (E := fun s => s 64 2 = sq17 64 2 ∧ s 64 4 = sq17 64 4 ∧ s 64 3 = sq17 64 3 ∧ s 64 5 = sq17 64 5 ∧ s 63 2 = sq17 63 2 ∧ s 63 3 = sq17 63 3 ∧ s 64 1 = σ1 64 1 ∧ s 66 8 = σ1 66 8 ∧ s 66 9 = σ1 66 9 ∧ s 66 10 = σ1 66 10 ∧ s 69 2 = σ1 69 2 ∧ s 72 2 = σ1 72 2 ∧ s 63 5 = σ1 63 5 ∧ s = h_up s76 68 (σ1 66 8) (-4)) _ (in_68 Is76 (by omega)) (Fs76.up rfl) ⟨es76.1, es76.2.1, es76.2.2.1, es76.2.2.2.1, es76.2.2.2.2.1, es76.2.2.2.2.2.1, es76.2.2.2.2.2.2.1, es76.2.2.2.2.2.2.2.1, es76.2.2.2.2.2.2.2.2.1, es76.2.2.2.2.2.2.2.2.2.1, es76.2.2.2.2.2.2.2.2.2.2.1, es76.2.2.2.2.2.2.2.2.2.2.2.1, es76.2.2.2.2.2.2.2.2.2.2.2.2.1, rfl⟩ (fun s78 Is78 Fs78 (es78 : s78 64 2 = sq17 64 2 ∧ s78 64 4 = sq17 64 4 ∧ s78 64 3 = sq17 64 3 ∧ s78 64 5 = sq17 64 5 ∧ s78 63 2 = sq17 63 2 ∧ s78 63 3 = sq17 63 3 ∧ s78 64 1 = σ1 64 1 ∧ s78 66 8 = σ1 66 8 ∧ s78 66 9 = σ1 66 9 ∧ s78 66 10 = σ1 66 10 ∧ s78 69 2 = σ1 69 2 ∧ s78 72 2 = σ1 72 2 ∧ s78 63 5 = σ1 63 5 ∧ s78 = h_up s76 68 (σ1 66 8) (-4)) => ?_))
          clear hz77
          refine h_aload_n (pc' := 30) rfl rfl rfl ?_
          refine h_dup (pc' := 31) rfl rfl rfl ?_
          refine h_getI (pc' := 34) (v := σ1 66 8) rfl rfl rfl rfl rfl es78.2.2.2.2.2.2.2.1 (fun z79 hz79 => ?_)
          refine h_iconst (pc' := 35) (x := (Int32.ofInt 1)) rfl rfl rfl ?_
          refine h_iadd (pc' := 36) rfl rfl hz79 ci_1 rfl (by omega) (by omega) (fun z80 hz80 => ?_)
          clear hz79
          refine h_put (pc' := 39) rfl rfl rfl rfl rfl rfl hz80 rfl (h_fgt (E := fun s => s 64 2 = sq17 64 2 ∧ s 64 4 = sq17 64 4 ∧ s 64 3 = sq17 64 3 ∧ s 64 5 = sq17 64 5 ∧ s 63 2 = sq17 63 2 ∧ s 63 3 = sq17 63 3 ∧ s 64 1 = σ1 64 1 ∧ s 66 8 = ((σ1 66 8) + 1) ∧ s 66 9 = σ1 66 9 ∧ s 66 10 = σ1 66 10 ∧ s 69 2 = σ1 69 2 ∧ s 72 2 = σ1 72 2 ∧ s 63 5 = σ1 63 5 ∧ s = h_up s78 66 8 ((σ1 66 8) + 1)) _ (if_66_8 Is78 (by omega)) (Fs78.up rfl) ⟨es78.1, es78.2.1, es78.2.2.1, es78.2.2.2.1, es78.2.2.2.2.1, es78.2.2.2.2.2.1, es78.2.2.2.2.2.2.1, rfl, es78.2.2.2.2.2.2.2.2.1, es78.2.2.2.2.2.2.2.2.2.1, es78.2.2.2.2.2.2.2.2.2.2.1, es78.2.2.2.2.2.2.2.2.2.2.2.1, es78.2.2.2.2.2.2.2.2.2.2.2.2.1, rfl⟩ (fun s81 Is81 Fs81 (es81 : s81 64 2 = sq17 64 2 ∧ s81 64 4 = sq17 64 4 ∧ s81 64 3 = sq17 64 3 ∧ s81 64 5 = sq17 64 5 ∧ s81 63 2 = sq17 63 2 ∧ s81 63 3 = sq17 63 3 ∧ s81 64 1 = σ1 64 1 ∧ s81 66 8 = ((σ1 66 8) + 1) ∧ s81 66 9 = σ1 66 9 ∧ s81 66 10 = σ1 66 10 ∧ s81 69 2 = σ1 69 2 ∧ s81 72 2 = σ1 72 2 ∧ s81 63 5 = σ1 63 5 ∧ s81 = h_up s78 66 8 ((σ1 66 8) + 1)) => ?_))
          refine h_vret rfl rfl (h_Kn ?_)
          refine h_vret rfl rfl (d_retn hlv1 ?_)
          exact h_wk [(0, .ref 63)] ⟨rfl, trivial⟩ (kx0 _ _ Is81 Is64 Fs81 Fs64 (by omega) (by omega) (by omega) (by omega) (by omega) (fun _ => d_mk (es81.2.2.2.2.2.2.2.1) (es81.2.2.2.2.2.2.2.2.1) (es81.2.2.2.2.2.2.2.2.2.1) (es81.2.2.2.2.2.2.2.2.2.2.1) (es81.2.2.2.2.2.2.2.2.2.2.2.1) (es81.2.2.2.2.2.2.2.2.2.2.2.2.1) (fun j => (h_upo es81.2.2.2.2.2.2.2.2.2.2.2.2.2 rfl j).trans ((h_upo es78.2.2.2.2.2.2.2.2.2.2.2.2.2 rfl j).trans ((h_upi es76.2.2.2.2.2.2.2.2.2.2.2.2.2 j).trans (congrArg (fun z => if j = (σ1 66 8) then a1 else z) ((Gsq17 67 j rfl)))))) (fun j => (h_upo es81.2.2.2.2.2.2.2.2.2.2.2.2.2 rfl j).trans ((h_upi es78.2.2.2.2.2.2.2.2.2.2.2.2.2 j).trans (congrArg (fun z => if j = (σ1 66 8) then (-4) else z) ((h_upo es76.2.2.2.2.2.2.2.2.2.2.2.2.2 rfl j).trans ((Gsq17 68 j rfl)))))) (fun j => (h_upo es81.2.2.2.2.2.2.2.2.2.2.2.2.2 rfl j).trans ((h_upo es78.2.2.2.2.2.2.2.2.2.2.2.2.2 rfl j).trans ((h_upo es76.2.2.2.2.2.2.2.2.2.2.2.2.2 rfl j).trans ((Gsq17 70 j rfl))))) (fun j => (h_upo es81.2.2.2.2.2.2.2.2.2.2.2.2.2 rfl j).trans ((h_upo es78.2.2.2.2.2.2.2.2.2.2.2.2.2 rfl j).trans ((h_upo es76.2.2.2.2.2.2.2.2.2.2.2.2.2 rfl j).trans ((Gsq17 71 j rfl))))) (fun j => (h_upo es81.2.2.2.2.2.2.2.2.2.2.2.2.2 rfl j).trans ((h_upo es78.2.2.2.2.2.2.2.2.2.2.2.2.2 rfl j).trans ((h_upo es76.2.2.2.2.2.2.2.2.2.2.2.2.2 rfl j).trans ((Gsq17 73 j rfl))))) (fun j => (h_upo es81.2.2.2.2.2.2.2.2.2.2.2.2.2 rfl j).trans ((h_upo es78.2.2.2.2.2.2.2.2.2.2.2.2.2 rfl j).trans ((h_upo es76.2.2.2.2.2.2.2.2.2.2.2.2.2 rfl j).trans ((Gsq17 74 j rfl))))) (fun j => (h_upo es81.2.2.2.2.2.2.2.2.2.2.2.2.2 rfl j).trans ((h_upo es78.2.2.2.2.2.2.2.2.2.2.2.2.2 rfl j).trans ((h_upo es76.2.2.2.2.2.2.2.2.2.2.2.2.2 rfl j).trans ((Gsq17 75 j rfl))))) (fun j => (h_upo es81.2.2.2.2.2.2.2.2.2.2.2.2.2 rfl j).trans ((h_upo es78.2.2.2.2.2.2.2.2.2.2.2.2.2 rfl j).trans ((h_upo es76.2.2.2.2.2.2.2.2.2.2.2.2.2 rfl j).trans ((Gsq17 76 j rfl))))) (fun j => (h_upo es81.2.2.2.2.2.2.2.2.2.2.2.2.2 rfl j).trans ((h_upo es78.2.2.2.2.2.2.2.2.2.2.2.2.2 rfl j).trans ((h_upo es76.2.2.2.2.2.2.2.2.2.2.2.2.2 rfl j).trans ((Gsq17 77 j rfl))))) (fun j => (h_upo es81.2.2.2.2.2.2.2.2.2.2.2.2.2 rfl j).trans ((h_upo es78.2.2.2.2.2.2.2.2.2.2.2.2.2 rfl j).trans ((h_upo es76.2.2.2.2.2.2.2.2.2.2.2.2.2 rfl j).trans ((Gsq17 78 j rfl))))) (es64.2.2.2.2.2.2.1) (es64.2.2.2.2.2.2.2.1) (es64.2.2.2.2.2.2.2.2.1) (es64.2.2.2.2.2.2.2.2.2.1) (es64.2.2.2.2.2.2.2.2.2.2.1) (fun j => (h_upo es64.2.2.2.2.2.2.2.2.2.2.2.2.2.2 rfl j).trans ((h_upi es59.2.2.2.2.2.2.2.2.2.2.2.2.2.2 j).trans (congrArg (fun z => if j = (σ2 98 5) then c1 else z) ((Gtq17 101 j rfl).trans ((h_upo es16.2.2.2.2.2.2.2.2.2.2.2.2.2.2 rfl j)))))) (r_one0 pr12 (by omega) (by omega) (by omega) (by omega) (by omega) (by omega) (by omega))) (Or.inr (Or.inr (Or.inl ⟨by omega, by omega, by omega, by omega, by omega, by omega⟩))) _ _ (h_al_ok ⟨rfl, trivial⟩ hlw65) hRw65)
        · show h_T g_P (g_Y ns) 154 132 [(0, .ref 98), (1, .int y1)] [] tq17 _
          refine h_aload_n (pc' := 133) rfl rfl rfl ?_
          refine h_getI (pc' := 136) (v := tq17 98 13) rfl rfl rfl rfl rfl rfl (fun z82 hz82 => ?_)
          have tz82 := tf_98_13 Itq17
          refine h_zle (tg := 140) (pc' := 139) rfl rfl rfl hz82 (fun c83 => ?_) (fun c83 => absurd c83 (by omega))
          clear hz82
          refine h_aload_n (pc' := 141) rfl rfl rfl ?_
          refine h_iload_n (pc' := 142) rfl rfl rfl ?_
          refine d_call (g_inj ns) (pc' := 145) (m := 153) (M := [(0, .ref 98), (1, .int y1)]) (rest := []) ⟨false, _, _, _, _, _, _, rfl, rfl, rfl, rfl, rfl, rfl, rfl⟩ (fun lv84 hlv84 => ?_)
          refine h_iload_n (pc' := 1) rfl rfl rfl ?_
          refine h_iconst (pc' := 2) (x := (Int32.ofInt 3)) rfl rfl rfl ?_
          refine h_cgt (tg := 61) (pc' := 5) rfl rfl rfl hy1 ci_3 (fun c85 => absurd c85 (by omega)) (fun c85 => ?_)
          refine h_aload_n (pc' := 6) rfl rfl rfl ?_
          refine h_getR (pc' := 9) rfl rfl rfl rfl rfl ?_
          refine h_aload_n (pc' := 10) rfl rfl rfl ?_
          refine h_getI (pc' := 13) (v := σ2 98 5) rfl rfl rfl rfl rfl etq17_6 (fun z86 hz86 => ?_)
          refine h_iload_n (pc' := 14) rfl rfl rfl ?_
          refine h_iast (pc' := 15) rfl rfl rfl rfl hz86 (by omega) (by omega) hy1 (h_fgt (E := fun s => s 98 15 = tq17 98 15 ∧ s 98 16 = tq17 98 16 ∧ s 98 17 = tq17 98 17 ∧ s 98 18 = tq17 98 18 ∧ s 98 13 = tq17 98 13 ∧ s 98 14 = tq17 98 14 ∧ s 98 5 = σ2 98 5 ∧ s 98 6 = σ2 98 6 ∧ s 98 7 = 1 ∧ s 98 8 = σ2 98 8 ∧ s 98 9 = σ2 98 9 ∧ s 101 18 = σ2 101 18 ∧ s 101 25 = σ2 101 25 ∧ s 101 43 = σ2 101 43 ∧ s = h_up tq17 101 (σ2 98 5) c1) _ (ip_101_0 Itq17 (by omega) (by omega)) (Ftq17.up rfl) ⟨rfl, rfl, rfl, rfl, rfl, rfl, etq17_6, etq17_7, etq17_8, etq17_9, etq17_10, h_up_n2 (by omega) etq17_11, h_up_n2 (by omega) etq17_12, h_up_n2 (by omega) etq17_13, rfl⟩ (fun s87 Is87 Fs87 (es87 : s87 98 15 = tq17 98 15 ∧ s87 98 16 = tq17 98 16 ∧ s87 98 17 = tq17 98 17 ∧ s87 98 18 = tq17 98 18 ∧ s87 98 13 = tq17 98 13 ∧ s87 98 14 = tq17 98 14 ∧ s87 98 5 = σ2 98 5 ∧ s87 98 6 = σ2 98 6 ∧ s87 98 7 = 1 ∧ s87 98 8 = σ2 98 8 ∧ s87 98 9 = σ2 98 9 ∧ s87 101 18 = σ2 101 18 ∧ s87 101 25 = σ2 101 25 ∧ s87 101 43 = σ2 101 43 ∧ s87 = h_up tq17 101 (σ2 98 5) c1) => ?_))
          clear hz86
          refine h_aload_n (pc' := 16) rfl rfl rfl ?_
          refine h_getI (pc' := 19) (v := tq17 98 17) rfl rfl rfl rfl rfl es87.2.2.1 (fun z88 hz88 => ?_)
          have tz88 := tf_98_17 Itq17
          refine h_iconst (pc' := 20) (x := (Int32.ofInt 2)) rfl rfl rfl ?_
          refine h_cne (tg := 48) (pc' := 23) rfl rfl rfl hz88 ci_2 (fun c89 => absurd c89 (by omega)) (fun c89 => ?_)
          clear hz88
          refine h_aload_n (pc' := 24) rfl rfl rfl ?_
          refine h_getR (pc' := 27) rfl rfl rfl rfl rfl ?_
          refine h_bipush (pc' := 29) (x := (Int32.ofInt 6)) rfl rfl cb_6 ?_
          refine h_aload_n (pc' := 30) rfl rfl rfl ?_
          refine h_getI (pc' := 33) (v := σ2 98 5) rfl rfl rfl rfl rfl es87.2.2.2.2.2.2.1 (fun z90 hz90 => ?_)
          refine h_iadd (pc' := 34) rfl rfl ci_6 hz90 rfl (by omega) (by omega) (fun z91 hz91 => ?_)
          clear hz90
          refine h_aload_n (pc' := 35) rfl rfl rfl ?_
          refine h_iconst (pc' := 36) (x := (Int32.ofInt 0)) rfl rfl rfl ?_
          refine h_aload_n (pc' := 37) rfl rfl rfl ?_
          refine h_getI (pc' := 40) (v := σ2 98 5) rfl rfl rfl rfl rfl es87.2.2.2.2.2.2.1 (fun z92 hz92 => ?_)
          refine h_iconst (pc' := 41) (x := (Int32.ofInt 1)) rfl rfl rfl ?_
          refine h_isub (pc' := 42) rfl rfl hz92 ci_1 rfl (by omega) (by omega) (fun z93 hz93 => ?_)
          clear hz92
          refine d_toL (g_inj ns) hlw6 hRq17 (fun lvw94 memw94 hlw94 hRw94 => ?_)
          show h_T g_P (g_Y ns) 57 20 [(0, .ref 63), (1, .int (Int32.ofInt 0))] [] sq17 _
          refine h_vret rfl rfl (d_retn hlv4 ?_)
          refine h_aload_n (pc' := 22) rfl rfl rfl ?_
          refine h_call (sp := false) (pc' := 25) (M := [(0, .ref 63)]) rfl rfl rfl rfl rfl rfl rfl rfl ?_
          refine h_aload_n (pc' := 1) rfl rfl rfl ?_
          refine h_getI (pc' := 4) (v := sq17 63 2) rfl rfl rfl rfl rfl rfl (fun z95 hz95 => ?_)
          have tz95 := tf_63_2 Isq17
          refine h_zne (tg := 22) (pc' := 7) rfl rfl rfl hz95 (fun c96 => absurd c96 (by omega)) (fun c96 => ?_)
          clear hz95
          refine h_aload_n (pc' := 8) rfl rfl rfl ?_
          refine h_getR (pc' := 11) rfl rfl rfl rfl rfl ?_
          refine h_getI (pc' := 14) (v := sq17 64 3) rfl rfl rfl rfl rfl rfl (fun z97 hz97 => ?_)
          have tz97 := tf_64_3 Isq17
          refine h_iconst (pc' := 15) (x := (Int32.ofInt 2)) rfl rfl rfl ?_
          refine h_cne (tg := 22) (pc' := 18) rfl rfl rfl hz97 ci_2 (fun c98 => absurd c98 (by omega)) (fun c98 => ?_)
          clear hz97
          refine h_iconst (pc' := 19) (x := (Int32.ofInt 1)) rfl rfl rfl ?_
          refine h_goto (pc' := 23) rfl rfl ?_
          refine h_zret rfl rfl ci_1 (by omega) (h_Kv ?_)
          refine h_zeq (tg := 44) (pc' := 28) rfl rfl rfl ci_1 (fun c99 => absurd c99 (by omega)) (fun c99 => ?_)
          refine h_aload_n (pc' := 29) rfl rfl rfl ?_
          refine h_aload_n (pc' := 30) rfl rfl rfl ?_
          refine h_getR (pc' := 33) rfl rfl rfl rfl rfl ?_
          refine h_getI (pc' := 36) (v := σ1 66 8) rfl rfl rfl rfl rfl esq17_7 (fun z100 hz100 => ?_)
          refine h_iconst (pc' := 37) (x := (Int32.ofInt 1)) rfl rfl rfl ?_
          refine h_isub (pc' := 38) rfl rfl hz100 ci_1 rfl (by omega) (by omega) (fun z101 hz101 => ?_)
          clear hz100
          refine d_toM (g_inj ns) hlw94 hRw94 (fun lvw102 memw102 hlw102 hRw102 => ?_)
          show h_T g_P (g_Y ns) 153 42 [(0, .ref 98), (1, .int y1)] [.int z93, .int (Int32.ofInt 0), .ref 98, .int z91, .ref 101] s87 _
          refine d_pcall (g_inj ns) (m1 := 58) (pc1' := 41) (M1 := [(0, .ref 63), (1, .int z101)]) (rest1 := []) (m2 := 149) (pc2' := 45) (M2 := [(0, .ref 98), (1, .int (Int32.ofInt 0)), (2, .int z93)]) (rest2 := [.int z91, .ref 101]) ⟨false, _, _, _, _, _, _, rfl, rfl, rfl, rfl, rfl, rfl, rfl⟩ ⟨false, _, _, _, _, _, _, rfl, rfl, rfl, rfl, rfl, rfl, rfl⟩ hRw102 ?_
          refine pp_num Isq17 Is87 (hTL.fr (Fsq17.mono rfl) (Fs87.mono rfl)) z101 _ hz101 z93 _ hz93 (by omega) (by omega) (by omega) (by omega) (by omega) (by omega) (Or.inr (Or.inr (Or.inr (Or.inl ⟨by omega, by omega, by omega, by omega, by omega, by omega, by omega, by omega⟩)))) (fun rq103x bq103x hq103x rq103m bq103m hq103m sq103 tq103 Isq103 Itq103 Gsq103 Gtq103 yq103_0 yq103_1 yq103_2 yq103_3 yq103_4 pcq103 memq103 hRq103 => ?_)
          have Fsq103 := (Gsq103.mono (B := k_px) rfl).tr Fsq17
          have Ftq103 := (Gtq103.mono (B := k_pm) rfl).tr Fs87
          have esq103_6 : sq103 64 1 = σ1 64 1 := (Gsq103 64 1 rfl).trans esq17_6
          have esq103_7 : sq103 66 8 = σ1 66 8 := (Gsq103 66 8 rfl).trans esq17_7
          have esq103_8 : sq103 66 9 = σ1 66 9 := (Gsq103 66 9 rfl).trans esq17_8
          have esq103_9 : sq103 66 10 = σ1 66 10 := (Gsq103 66 10 rfl).trans esq17_9
          have esq103_10 : sq103 69 2 = σ1 69 2 := (Gsq103 69 2 rfl).trans esq17_10
          have esq103_11 : sq103 72 2 = σ1 72 2 := (Gsq103 72 2 rfl).trans esq17_11
          have esq103_12 : sq103 63 5 = σ1 63 5 := (Gsq103 63 5 rfl).trans esq17_12
          have etq103_6 : tq103 98 5 = σ2 98 5 := (Gtq103 98 5 rfl).trans es87.2.2.2.2.2.2.1
          have etq103_7 : tq103 98 6 = σ2 98 6 := (Gtq103 98 6 rfl).trans es87.2.2.2.2.2.2.2.1
          have etq103_8 : tq103 98 7 = 1 := (Gtq103 98 7 rfl).trans es87.2.2.2.2.2.2.2.2.1
          have etq103_9 : tq103 98 8 = σ2 98 8 := (Gtq103 98 8 rfl).trans es87.2.2.2.2.2.2.2.2.2.1
          have etq103_10 : tq103 98 9 = σ2 98 9 := (Gtq103 98 9 rfl).trans es87.2.2.2.2.2.2.2.2.2.2.1
          have etq103_11 : tq103 101 18 = σ2 101 18 := (Gtq103 101 18 rfl).trans es87.2.2.2.2.2.2.2.2.2.2.2.1
          have etq103_12 : tq103 101 25 = σ2 101 25 := (Gtq103 101 25 rfl).trans es87.2.2.2.2.2.2.2.2.2.2.2.2.1
          have etq103_13 : tq103 101 43 = σ2 101 43 := (Gtq103 101 43 rfl).trans es87.2.2.2.2.2.2.2.2.2.2.2.2.2.1
          rcases pcq103 with pcq103 | pcq103 | pcq103 | pcq103 | pcq103
          · show h_T g_P (g_Y ns) 153 45 [(0, .ref 98), (1, .int y1)] [.int rq103m, .int z91, .ref 101] tq103 _
            clear hz101 hz93
            refine h_iconst (pc' := 46) (x := (Int32.ofInt 1)) rfl rfl rfl ?_
            refine h_iadd (pc' := 47) rfl rfl hq103m ci_1 rfl (by have g0 := h_rgv hq103m; omega) (by have g0 := h_rgv hq103m; omega) (fun z104 hz104 => ?_)
            clear hq103m
            refine h_iast (pc' := 48) rfl rfl rfl rfl hz91 (by omega) (by omega) hz104 (h_fgt (E := fun s => s 98 15 = tq103 98 15 ∧ s 98 16 = tq103 98 16 ∧ s 98 17 = tq103 98 17 ∧ s 98 18 = tq103 98 18 ∧ s 98 13 = tq103 98 13 ∧ s 98 14 = tq103 98 14 ∧ s 98 5 = σ2 98 5 ∧ s 98 6 = σ2 98 6 ∧ s 98 7 = 1 ∧ s 98 8 = σ2 98 8 ∧ s 98 9 = σ2 98 9 ∧ s 101 18 = σ2 101 18 ∧ s 101 25 = σ2 101 25 ∧ s 101 43 = σ2 101 43 ∧ s = h_up tq103 101 (6 + (σ2 98 5)) (bq103m + 1)) _ (ip_101_1 Itq103 (by omega) (by omega)) (Ftq103.up rfl) ⟨rfl, rfl, rfl, rfl, rfl, rfl, etq103_6, etq103_7, etq103_8, etq103_9, etq103_10, h_up_n2 (by omega) etq103_11, h_up_n2 (by omega) etq103_12, h_up_n2 (by omega) etq103_13, rfl⟩ (fun s105 Is105 Fs105 (es105 : s105 98 15 = tq103 98 15 ∧ s105 98 16 = tq103 98 16 ∧ s105 98 17 = tq103 98 17 ∧ s105 98 18 = tq103 98 18 ∧ s105 98 13 = tq103 98 13 ∧ s105 98 14 = tq103 98 14 ∧ s105 98 5 = σ2 98 5 ∧ s105 98 6 = σ2 98 6 ∧ s105 98 7 = 1 ∧ s105 98 8 = σ2 98 8 ∧ s105 98 9 = σ2 98 9 ∧ s105 101 18 = σ2 101 18 ∧ s105 101 25 = σ2 101 25 ∧ s105 101 43 = σ2 101 43 ∧ s105 = h_up tq103 101 (6 + (σ2 98 5)) (bq103m + 1)) => ?_))
            clear hz104 hz91
            refine h_aload_n (pc' := 49) rfl rfl rfl ?_
            refine h_dup (pc' := 50) rfl rfl rfl ?_
            refine h_getI (pc' := 53) (v := σ2 98 5) rfl rfl rfl rfl rfl es105.2.2.2.2.2.2.1 (fun z106 hz106 => ?_)
            refine h_iconst (pc' := 54) (x := (Int32.ofInt 1)) rfl rfl rfl ?_
            refine h_iadd (pc' := 55) rfl rfl hz106 ci_1 rfl (by omega) (by omega) (fun z107 hz107 => ?_)
            clear hz106
            refine h_put (pc' := 58) rfl rfl rfl rfl rfl rfl hz107 rfl (h_fgt (E := fun s => s 98 15 = tq103 98 15 ∧ s 98 16 = tq103 98 16 ∧ s 98 17 = tq103 98 17 ∧ s 98 18 = tq103 98 18 ∧ s 98 13 = tq103 98 13 ∧ s 98 14 = tq103 98 14 ∧ s 98 5 = ((σ2 98 5) + 1) ∧ s 98 6 = σ2 98 6 ∧ s 98 7 = 1 ∧ s 98 8 = σ2 98 8 ∧ s 98 9 = σ2 98 9 ∧ s 101 18 = σ2 101 18 ∧ s 101 25 = σ2 101 25 ∧ s 101 43 = σ2 101 43 ∧ s = h_up s105 98 5 ((σ2 98 5) + 1)) _ (if_98_5 Is105 (by omega)) (Fs105.up rfl) ⟨es105.1, es105.2.1, es105.2.2.1, es105.2.2.2.1, es105.2.2.2.2.1, es105.2.2.2.2.2.1, rfl, es105.2.2.2.2.2.2.2.1, es105.2.2.2.2.2.2.2.2.1, es105.2.2.2.2.2.2.2.2.2.1, es105.2.2.2.2.2.2.2.2.2.2.1, es105.2.2.2.2.2.2.2.2.2.2.2.1, es105.2.2.2.2.2.2.2.2.2.2.2.2.1, es105.2.2.2.2.2.2.2.2.2.2.2.2.2.1, rfl⟩ (fun s108 Is108 Fs108 (es108 : s108 98 15 = tq103 98 15 ∧ s108 98 16 = tq103 98 16 ∧ s108 98 17 = tq103 98 17 ∧ s108 98 18 = tq103 98 18 ∧ s108 98 13 = tq103 98 13 ∧ s108 98 14 = tq103 98 14 ∧ s108 98 5 = ((σ2 98 5) + 1) ∧ s108 98 6 = σ2 98 6 ∧ s108 98 7 = 1 ∧ s108 98 8 = σ2 98 8 ∧ s108 98 9 = σ2 98 9 ∧ s108 101 18 = σ2 101 18 ∧ s108 101 25 = σ2 101 25 ∧ s108 101 43 = σ2 101 43 ∧ s108 = h_up s105 98 5 ((σ2 98 5) + 1)) => ?_))
            refine h_goto (pc' := 178) rfl rfl ?_
            refine h_vret rfl rfl (d_retn hlv84 ?_)
            refine d_toL (g_inj ns) hlw102 hRq103 (fun lvw109 memw109 hlw109 hRw109 => ?_)
            show h_T g_P (g_Y ns) 59 41 [(0, .ref 63), (1, .int x1)] [.int rq103x] sq103 _
            refine h_goto (pc' := 46) rfl rfl ?_
            refine h_istore_n (pc' := 47) (M := [(2, .int rq103x), (0, .ref 63), (1, .int x1)]) rfl rfl rfl rfl ?_
            refine h_aload_n (pc' := 48) rfl rfl rfl ?_
            refine h_getI (pc' := 51) (v := sq103 63 2) rfl rfl rfl rfl rfl rfl (fun z110 hz110 => ?_)
            have tz110 := tf_63_2 Isq103
            refine h_zne (tg := 63) (pc' := 54) rfl rfl rfl hz110 (fun c111 => ?_) (fun c111 => absurd c111 (by omega))
            clear hz110
            refine h_vret rfl rfl (d_retn hlv1 ?_)
            clear hq103x
            exact h_wk [(0, .ref 63)] ⟨rfl, trivial⟩ (kx0 _ _ Isq103 Is108 Fsq103 Fs108 (by omega) (by omega) (by omega) (by omega) (by omega) (fun h => absurd h (by omega)) (Or.inl ⟨by omega, by omega, by omega, by omega⟩) _ _ (h_al_ok ⟨rfl, trivial⟩ hlw109) hRw109)
          · show h_T g_P (g_Y ns) 153 45 [(0, .ref 98), (1, .int y1)] [.int rq103m, .int z91, .ref 101] tq103 _
            clear hz101 hz93
            refine h_iconst (pc' := 46) (x := (Int32.ofInt 1)) rfl rfl rfl ?_
            refine h_iadd (pc' := 47) rfl rfl hq103m ci_1 rfl (by have g0 := h_rgv hq103m; omega) (by have g0 := h_rgv hq103m; omega) (fun z112 hz112 => ?_)
            clear hq103m
            refine h_iast (pc' := 48) rfl rfl rfl rfl hz91 (by omega) (by omega) hz112 (h_fgt (E := fun s => s 98 15 = tq103 98 15 ∧ s 98 16 = tq103 98 16 ∧ s 98 17 = tq103 98 17 ∧ s 98 18 = tq103 98 18 ∧ s 98 13 = tq103 98 13 ∧ s 98 14 = tq103 98 14 ∧ s 98 5 = σ2 98 5 ∧ s 98 6 = σ2 98 6 ∧ s 98 7 = 1 ∧ s 98 8 = σ2 98 8 ∧ s 98 9 = σ2 98 9 ∧ s 101 18 = σ2 101 18 ∧ s 101 25 = σ2 101 25 ∧ s 101 43 = σ2 101 43 ∧ s = h_up tq103 101 (6 + (σ2 98 5)) (bq103m + 1)) _ (ip_101_1 Itq103 (by omega) (by omega)) (Ftq103.up rfl) ⟨rfl, rfl, rfl, rfl, rfl, rfl, etq103_6, etq103_7, etq103_8, etq103_9, etq103_10, h_up_n2 (by omega) etq103_11, h_up_n2 (by omega) etq103_12, h_up_n2 (by omega) etq103_13, rfl⟩ (fun s113 Is113 Fs113 (es113 : s113 98 15 = tq103 98 15 ∧ s113 98 16 = tq103 98 16 ∧ s113 98 17 = tq103 98 17 ∧ s113 98 18 = tq103 98 18 ∧ s113 98 13 = tq103 98 13 ∧ s113 98 14 = tq103 98 14 ∧ s113 98 5 = σ2 98 5 ∧ s113 98 6 = σ2 98 6 ∧ s113 98 7 = 1 ∧ s113 98 8 = σ2 98 8 ∧ s113 98 9 = σ2 98 9 ∧ s113 101 18 = σ2 101 18 ∧ s113 101 25 = σ2 101 25 ∧ s113 101 43 = σ2 101 43 ∧ s113 = h_up tq103 101 (6 + (σ2 98 5)) (bq103m + 1)) => ?_))
            clear hz112 hz91
            refine h_aload_n (pc' := 49) rfl rfl rfl ?_
            refine h_dup (pc' := 50) rfl rfl rfl ?_
            refine h_getI (pc' := 53) (v := σ2 98 5) rfl rfl rfl rfl rfl es113.2.2.2.2.2.2.1 (fun z114 hz114 => ?_)
            refine h_iconst (pc' := 54) (x := (Int32.ofInt 1)) rfl rfl rfl ?_
            refine h_iadd (pc' := 55) rfl rfl hz114 ci_1 rfl (by omega) (by omega) (fun z115 hz115 => ?_)
            clear hz114
            refine h_put (pc' := 58) rfl rfl rfl rfl rfl rfl hz115 rfl (h_fgt (E := fun s => s 98 15 = tq103 98 15 ∧ s 98 16 = tq103 98 16 ∧ s 98 17 = tq103 98 17 ∧ s 98 18 = tq103 98 18 ∧ s 98 13 = tq103 98 13 ∧ s 98 14 = tq103 98 14 ∧ s 98 5 = ((σ2 98 5) + 1) ∧ s 98 6 = σ2 98 6 ∧ s 98 7 = 1 ∧ s 98 8 = σ2 98 8 ∧ s 98 9 = σ2 98 9 ∧ s 101 18 = σ2 101 18 ∧ s 101 25 = σ2 101 25 ∧ s 101 43 = σ2 101 43 ∧ s = h_up s113 98 5 ((σ2 98 5) + 1)) _ (if_98_5 Is113 (by omega)) (Fs113.up rfl) ⟨es113.1, es113.2.1, es113.2.2.1, es113.2.2.2.1, es113.2.2.2.2.1, es113.2.2.2.2.2.1, rfl, es113.2.2.2.2.2.2.2.1, es113.2.2.2.2.2.2.2.2.1, es113.2.2.2.2.2.2.2.2.2.1, es113.2.2.2.2.2.2.2.2.2.2.1, es113.2.2.2.2.2.2.2.2.2.2.2.1, es113.2.2.2.2.2.2.2.2.2.2.2.2.1, es113.2.2.2.2.2.2.2.2.2.2.2.2.2.1, rfl⟩ (fun s116 Is116 Fs116 (es116 : s116 98 15 = tq103 98 15 ∧ s116 98 16 = tq103 98 16 ∧ s116 98 17 = tq103 98 17 ∧ s116 98 18 = tq103 98 18 ∧ s116 98 13 = tq103 98 13 ∧ s116 98 14 = tq103 98 14 ∧ s116 98 5 = ((σ2 98 5) + 1) ∧ s116 98 6 = σ2 98 6 ∧ s116 98 7 = 1 ∧ s116 98 8 = σ2 98 8 ∧ s116 98 9 = σ2 98 9 ∧ s116 101 18 = σ2 101 18 ∧ s116 101 25 = σ2 101 25 ∧ s116 101 43 = σ2 101 43 ∧ s116 = h_up s113 98 5 ((σ2 98 5) + 1)) => ?_))
            refine h_goto (pc' := 178) rfl rfl ?_
            refine h_vret rfl rfl (d_retn hlv84 ?_)
            refine d_toL (g_inj ns) hlw102 hRq103 (fun lvw117 memw117 hlw117 hRw117 => ?_)
            show h_T g_P (g_Y ns) 59 41 [(0, .ref 63), (1, .int x1)] [.int rq103x] sq103 _
            refine h_goto (pc' := 46) rfl rfl ?_
            refine h_istore_n (pc' := 47) (M := [(2, .int rq103x), (0, .ref 63), (1, .int x1)]) rfl rfl rfl rfl ?_
            refine h_aload_n (pc' := 48) rfl rfl rfl ?_
            refine h_getI (pc' := 51) (v := sq103 63 2) rfl rfl rfl rfl rfl rfl (fun z118 hz118 => ?_)
            have tz118 := tf_63_2 Isq103
            refine h_zne (tg := 63) (pc' := 54) rfl rfl rfl hz118 (fun c119 => absurd c119 (by omega)) (fun c119 => ?_)
            clear hz118
            refine h_aload_n (pc' := 55) rfl rfl rfl ?_
            refine h_getR (pc' := 58) rfl rfl rfl rfl rfl ?_
            refine h_iload_n (pc' := 59) rfl rfl rfl ?_
            refine h_iload_n (pc' := 60) rfl rfl rfl ?_
            refine h_call (sp := false) (pc' := 63) (M := [(0, .ref 66), (1, .int x1), (2, .int rq103x)]) rfl rfl rfl rfl rfl rfl rfl rfl ?_
            refine h_aload_n (pc' := 1) rfl rfl rfl ?_
            refine h_getI (pc' := 4) (v := σ1 66 8) rfl rfl rfl rfl rfl esq103_7 (fun z120 hz120 => ?_)
            refine h_bipush (pc' := 6) (x := (Int32.ofInt 6)) rfl rfl cb_6 ?_
            refine h_cge (tg := 39) (pc' := 9) rfl rfl rfl hz120 ci_6 (fun c121 => absurd c121 (by omega)) (fun c121 => ?_)
            clear hz120
            refine h_aload_n (pc' := 10) rfl rfl rfl ?_
            refine h_getR (pc' := 13) rfl rfl rfl rfl rfl ?_
            refine h_aload_n (pc' := 14) rfl rfl rfl ?_
            refine h_getI (pc' := 17) (v := σ1 66 8) rfl rfl rfl rfl rfl esq103_7 (fun z122 hz122 => ?_)
            refine h_iload_n (pc' := 18) rfl rfl rfl ?_
            refine h_iast (pc' := 19) rfl rfl rfl rfl hz122 (by omega) (by omega) hx1 (h_fgt (E := fun s => s 64 2 = sq103 64 2 ∧ s 64 4 = sq103 64 4 ∧ s 64 3 = sq103 64 3 ∧ s 64 5 = sq103 64 5 ∧ s 63 2 = sq103 63 2 ∧ s 63 3 = sq103 63 3 ∧ s 64 1 = σ1 64 1 ∧ s 66 8 = σ1 66 8 ∧ s 66 9 = σ1 66 9 ∧ s 66 10 = σ1 66 10 ∧ s 69 2 = σ1 69 2 ∧ s 72 2 = σ1 72 2 ∧ s 63 5 = σ1 63 5 ∧ s = h_up sq103 67 (σ1 66 8) a1) _ (in_67 Isq103 (by omega)) (Fsq103.up rfl) ⟨rfl, rfl, rfl, rfl, rfl, rfl, esq103_6, esq103_7, esq103_8, esq103_9, esq103_10, esq103_11, esq103_12, rfl⟩ (fun s123 Is123 Fs123 (es123 : s123 64 2 = sq103 64 2 ∧ s123 64 4 = sq103 64 4 ∧ s123 64 3 = sq103 64 3 ∧ s123 64 5 = sq103 64 5 ∧ s123 63 2 = sq103 63 2 ∧ s123 63 3 = sq103 63 3 ∧ s123 64 1 = σ1 64 1 ∧ s123 66 8 = σ1 66 8 ∧ s123 66 9 = σ1 66 9 ∧ s123 66 10 = σ1 66 10 ∧ s123 69 2 = σ1 69 2 ∧ s123 72 2 = σ1 72 2 ∧ s123 63 5 = σ1 63 5 ∧ s123 = h_up sq103 67 (σ1 66 8) a1) => ?_))
            clear hz122
            refine h_aload_n (pc' := 20) rfl rfl rfl ?_
            refine h_getR (pc' := 23) rfl rfl rfl rfl rfl ?_
            refine h_aload_n (pc' := 24) rfl rfl rfl ?_
            refine h_getI (pc' := 27) (v := σ1 66 8) rfl rfl rfl rfl rfl es123.2.2.2.2.2.2.2.1 (fun z124 hz124 => ?_)
            refine h_iload_n (pc' := 28) rfl rfl rfl ?_
            refine h_iast (pc' := 29) rfl rfl rfl rfl hz124 (by omega) (by omega) hq103x (h_fgt (E := fun s => s 64 2 = sq103 64 2 ∧ s 64 4 = sq103 64 4 ∧ s 64 3 = sq103 64 3 ∧ s 64 5 = sq103 64 5 ∧ s 63 2 = sq103 63 2 ∧ s 63 3 = sq103 63 3 ∧ s 64 1 = σ1 64 1 ∧ s 66 8 = σ1 66 8 ∧ s 66 9 = σ1 66 9 ∧ s 66 10 = σ1 66 10 ∧ s 69 2 = σ1 69 2 ∧ s 72 2 = σ1 72 2 ∧ s 63 5 = σ1 63 5 ∧ s = h_up s123 68 (σ1 66 8) bq103x) _ (in_68 Is123 (by omega)) (Fs123.up rfl) ⟨es123.1, es123.2.1, es123.2.2.1, es123.2.2.2.1, es123.2.2.2.2.1, es123.2.2.2.2.2.1, es123.2.2.2.2.2.2.1, es123.2.2.2.2.2.2.2.1, es123.2.2.2.2.2.2.2.2.1, es123.2.2.2.2.2.2.2.2.2.1, es123.2.2.2.2.2.2.2.2.2.2.1, es123.2.2.2.2.2.2.2.2.2.2.2.1, es123.2.2.2.2.2.2.2.2.2.2.2.2.1, rfl⟩ (fun s125 Is125 Fs125 (es125 : s125 64 2 = sq103 64 2 ∧ s125 64 4 = sq103 64 4 ∧ s125 64 3 = sq103 64 3 ∧ s125 64 5 = sq103 64 5 ∧ s125 63 2 = sq103 63 2 ∧ s125 63 3 = sq103 63 3 ∧ s125 64 1 = σ1 64 1 ∧ s125 66 8 = σ1 66 8 ∧ s125 66 9 = σ1 66 9 ∧ s125 66 10 = σ1 66 10 ∧ s125 69 2 = σ1 69 2 ∧ s125 72 2 = σ1 72 2 ∧ s125 63 5 = σ1 63 5 ∧ s125 = h_up s123 68 (σ1 66 8) bq103x) => ?_))
            clear hz124
            refine h_aload_n (pc' := 30) rfl rfl rfl ?_
            refine h_dup (pc' := 31) rfl rfl rfl ?_
            refine h_getI (pc' := 34) (v := σ1 66 8) rfl rfl rfl rfl rfl es125.2.2.2.2.2.2.2.1 (fun z126 hz126 => ?_)
            refine h_iconst (pc' := 35) (x := (Int32.ofInt 1)) rfl rfl rfl ?_
            refine h_iadd (pc' := 36) rfl rfl hz126 ci_1 rfl (by omega) (by omega) (fun z127 hz127 => ?_)
            clear hz126
            refine h_put (pc' := 39) rfl rfl rfl rfl rfl rfl hz127 rfl (h_fgt (E := fun s => s 64 2 = sq103 64 2 ∧ s 64 4 = sq103 64 4 ∧ s 64 3 = sq103 64 3 ∧ s 64 5 = sq103 64 5 ∧ s 63 2 = sq103 63 2 ∧ s 63 3 = sq103 63 3 ∧ s 64 1 = σ1 64 1 ∧ s 66 8 = ((σ1 66 8) + 1) ∧ s 66 9 = σ1 66 9 ∧ s 66 10 = σ1 66 10 ∧ s 69 2 = σ1 69 2 ∧ s 72 2 = σ1 72 2 ∧ s 63 5 = σ1 63 5 ∧ s = h_up s125 66 8 ((σ1 66 8) + 1)) _ (if_66_8 Is125 (by omega)) (Fs125.up rfl) ⟨es125.1, es125.2.1, es125.2.2.1, es125.2.2.2.1, es125.2.2.2.2.1, es125.2.2.2.2.2.1, es125.2.2.2.2.2.2.1, rfl, es125.2.2.2.2.2.2.2.2.1, es125.2.2.2.2.2.2.2.2.2.1, es125.2.2.2.2.2.2.2.2.2.2.1, es125.2.2.2.2.2.2.2.2.2.2.2.1, es125.2.2.2.2.2.2.2.2.2.2.2.2.1, rfl⟩ (fun s128 Is128 Fs128 (es128 : s128 64 2 = sq103 64 2 ∧ s128 64 4 = sq103 64 4 ∧ s128 64 3 = sq103 64 3 ∧ s128 64 5 = sq103 64 5 ∧ s128 63 2 = sq103 63 2 ∧ s128 63 3 = sq103 63 3 ∧ s128 64 1 = σ1 64 1 ∧ s128 66 8 = ((σ1 66 8) + 1) ∧ s128 66 9 = σ1 66 9 ∧ s128 66 10 = σ1 66 10 ∧ s128 69 2 = σ1 69 2 ∧ s128 72 2 = σ1 72 2 ∧ s128 63 5 = σ1 63 5 ∧ s128 = h_up s125 66 8 ((σ1 66 8) + 1)) => ?_))
            refine h_vret rfl rfl (h_Kn ?_)
            refine h_vret rfl rfl (d_retn hlv1 ?_)
            clear hq103x
            exact h_wk [(0, .ref 63)] ⟨rfl, trivial⟩ (kx0 _ _ Is128 Is116 Fs128 Fs116 (by omega) (by omega) (by omega) (by omega) (by omega) (fun _ => d_mk (es128.2.2.2.2.2.2.2.1) (es128.2.2.2.2.2.2.2.2.1) (es128.2.2.2.2.2.2.2.2.2.1) (es128.2.2.2.2.2.2.2.2.2.2.1) (es128.2.2.2.2.2.2.2.2.2.2.2.1) (es128.2.2.2.2.2.2.2.2.2.2.2.2.1) (fun j => (h_upo es128.2.2.2.2.2.2.2.2.2.2.2.2.2 rfl j).trans ((h_upo es125.2.2.2.2.2.2.2.2.2.2.2.2.2 rfl j).trans ((h_upi es123.2.2.2.2.2.2.2.2.2.2.2.2.2 j).trans (congrArg (fun z => if j = (σ1 66 8) then a1 else z) ((Gsq103 67 j rfl).trans ((Gsq17 67 j rfl))))))) (fun j => (h_upo es128.2.2.2.2.2.2.2.2.2.2.2.2.2 rfl j).trans ((h_upi es125.2.2.2.2.2.2.2.2.2.2.2.2.2 j).trans (congrArg (fun z => if j = (σ1 66 8) then bq103x else z) ((h_upo es123.2.2.2.2.2.2.2.2.2.2.2.2.2 rfl j).trans ((Gsq103 68 j rfl).trans ((Gsq17 68 j rfl))))))) (fun j => (h_upo es128.2.2.2.2.2.2.2.2.2.2.2.2.2 rfl j).trans ((h_upo es125.2.2.2.2.2.2.2.2.2.2.2.2.2 rfl j).trans ((h_upo es123.2.2.2.2.2.2.2.2.2.2.2.2.2 rfl j).trans ((Gsq103 70 j rfl).trans ((Gsq17 70 j rfl)))))) (fun j => (h_upo es128.2.2.2.2.2.2.2.2.2.2.2.2.2 rfl j).trans ((h_upo es125.2.2.2.2.2.2.2.2.2.2.2.2.2 rfl j).trans ((h_upo es123.2.2.2.2.2.2.2.2.2.2.2.2.2 rfl j).trans ((Gsq103 71 j rfl).trans ((Gsq17 71 j rfl)))))) (fun j => (h_upo es128.2.2.2.2.2.2.2.2.2.2.2.2.2 rfl j).trans ((h_upo es125.2.2.2.2.2.2.2.2.2.2.2.2.2 rfl j).trans ((h_upo es123.2.2.2.2.2.2.2.2.2.2.2.2.2 rfl j).trans ((Gsq103 73 j rfl).trans ((Gsq17 73 j rfl)))))) (fun j => (h_upo es128.2.2.2.2.2.2.2.2.2.2.2.2.2 rfl j).trans ((h_upo es125.2.2.2.2.2.2.2.2.2.2.2.2.2 rfl j).trans ((h_upo es123.2.2.2.2.2.2.2.2.2.2.2.2.2 rfl j).trans ((Gsq103 74 j rfl).trans ((Gsq17 74 j rfl)))))) (fun j => (h_upo es128.2.2.2.2.2.2.2.2.2.2.2.2.2 rfl j).trans ((h_upo es125.2.2.2.2.2.2.2.2.2.2.2.2.2 rfl j).trans ((h_upo es123.2.2.2.2.2.2.2.2.2.2.2.2.2 rfl j).trans ((Gsq103 75 j rfl).trans ((Gsq17 75 j rfl)))))) (fun j => (h_upo es128.2.2.2.2.2.2.2.2.2.2.2.2.2 rfl j).trans ((h_upo es125.2.2.2.2.2.2.2.2.2.2.2.2.2 rfl j).trans ((h_upo es123.2.2.2.2.2.2.2.2.2.2.2.2.2 rfl j).trans ((Gsq103 76 j rfl).trans ((Gsq17 76 j rfl)))))) (fun j => (h_upo es128.2.2.2.2.2.2.2.2.2.2.2.2.2 rfl j).trans ((h_upo es125.2.2.2.2.2.2.2.2.2.2.2.2.2 rfl j).trans ((h_upo es123.2.2.2.2.2.2.2.2.2.2.2.2.2 rfl j).trans ((Gsq103 77 j rfl).trans ((Gsq17 77 j rfl)))))) (fun j => (h_upo es128.2.2.2.2.2.2.2.2.2.2.2.2.2 rfl j).trans ((h_upo es125.2.2.2.2.2.2.2.2.2.2.2.2.2 rfl j).trans ((h_upo es123.2.2.2.2.2.2.2.2.2.2.2.2.2 rfl j).trans ((Gsq103 78 j rfl).trans ((Gsq17 78 j rfl)))))) (es116.2.2.2.2.2.2.1) (es116.2.2.2.2.2.2.2.1) (es116.2.2.2.2.2.2.2.2.1) (es116.2.2.2.2.2.2.2.2.2.1) (es116.2.2.2.2.2.2.2.2.2.2.1) (fun j => (h_upo es116.2.2.2.2.2.2.2.2.2.2.2.2.2.2 rfl j).trans ((h_upi es113.2.2.2.2.2.2.2.2.2.2.2.2.2.2 j).trans (congrArg (fun z => if j = (6 + (σ2 98 5)) then (bq103m + 1) else z) ((Gtq103 101 j rfl).trans ((h_upi es87.2.2.2.2.2.2.2.2.2.2.2.2.2.2 j).trans (congrArg (fun z => if j = (σ2 98 5) then c1 else z) ((Gtq17 101 j rfl).trans ((h_upo es16.2.2.2.2.2.2.2.2.2.2.2.2.2.2 rfl j))))))))) (r_one1 pr12 (by omega) (by omega) (by omega) (by omega) (by omega) (by omega) (by omega) (by omega) (by omega) (by omega))) (Or.inr (Or.inl ⟨by omega, by omega, by omega, by omega, by omega⟩)) _ _ (h_al_ok ⟨rfl, trivial⟩ hlw117) hRw117)
          · show h_T g_P (g_Y ns) 153 45 [(0, .ref 98), (1, .int y1)] [.int rq103m, .int z91, .ref 101] tq103 _
            clear hz101 hz93
            refine h_iconst (pc' := 46) (x := (Int32.ofInt 1)) rfl rfl rfl ?_
            refine h_iadd (pc' := 47) rfl rfl hq103m ci_1 rfl (by have g0 := h_rgv hq103m; omega) (by have g0 := h_rgv hq103m; omega) (fun z129 hz129 => ?_)
            clear hq103m
            refine h_iast (pc' := 48) rfl rfl rfl rfl hz91 (by omega) (by omega) hz129 (h_fgt (E := fun s => s 98 15 = tq103 98 15 ∧ s 98 16 = tq103 98 16 ∧ s 98 17 = tq103 98 17 ∧ s 98 18 = tq103 98 18 ∧ s 98 13 = tq103 98 13 ∧ s 98 14 = tq103 98 14 ∧ s 98 5 = σ2 98 5 ∧ s 98 6 = σ2 98 6 ∧ s 98 7 = 1 ∧ s 98 8 = σ2 98 8 ∧ s 98 9 = σ2 98 9 ∧ s 101 18 = σ2 101 18 ∧ s 101 25 = σ2 101 25 ∧ s 101 43 = σ2 101 43 ∧ s = h_up tq103 101 (6 + (σ2 98 5)) (bq103m + 1)) _ (ip_101_1 Itq103 (by omega) (by omega)) (Ftq103.up rfl) ⟨rfl, rfl, rfl, rfl, rfl, rfl, etq103_6, etq103_7, etq103_8, etq103_9, etq103_10, h_up_n2 (by omega) etq103_11, h_up_n2 (by omega) etq103_12, h_up_n2 (by omega) etq103_13, rfl⟩ (fun s130 Is130 Fs130 (es130 : s130 98 15 = tq103 98 15 ∧ s130 98 16 = tq103 98 16 ∧ s130 98 17 = tq103 98 17 ∧ s130 98 18 = tq103 98 18 ∧ s130 98 13 = tq103 98 13 ∧ s130 98 14 = tq103 98 14 ∧ s130 98 5 = σ2 98 5 ∧ s130 98 6 = σ2 98 6 ∧ s130 98 7 = 1 ∧ s130 98 8 = σ2 98 8 ∧ s130 98 9 = σ2 98 9 ∧ s130 101 18 = σ2 101 18 ∧ s130 101 25 = σ2 101 25 ∧ s130 101 43 = σ2 101 43 ∧ s130 = h_up tq103 101 (6 + (σ2 98 5)) (bq103m + 1)) => ?_))
            clear hz129 hz91
            refine h_aload_n (pc' := 49) rfl rfl rfl ?_
            refine h_dup (pc' := 50) rfl rfl rfl ?_
            refine h_getI (pc' := 53) (v := σ2 98 5) rfl rfl rfl rfl rfl es130.2.2.2.2.2.2.1 (fun z131 hz131 => ?_)
            refine h_iconst (pc' := 54) (x := (Int32.ofInt 1)) rfl rfl rfl ?_
            refine h_iadd (pc' := 55) rfl rfl hz131 ci_1 rfl (by omega) (by omega) (fun z132 hz132 => ?_)
            clear hz131
            refine h_put (pc' := 58) rfl rfl rfl rfl rfl rfl hz132 rfl (h_fgt (E := fun s => s 98 15 = tq103 98 15 ∧ s 98 16 = tq103 98 16 ∧ s 98 17 = tq103 98 17 ∧ s 98 18 = tq103 98 18 ∧ s 98 13 = tq103 98 13 ∧ s 98 14 = tq103 98 14 ∧ s 98 5 = ((σ2 98 5) + 1) ∧ s 98 6 = σ2 98 6 ∧ s 98 7 = 1 ∧ s 98 8 = σ2 98 8 ∧ s 98 9 = σ2 98 9 ∧ s 101 18 = σ2 101 18 ∧ s 101 25 = σ2 101 25 ∧ s 101 43 = σ2 101 43 ∧ s = h_up s130 98 5 ((σ2 98 5) + 1)) _ (if_98_5 Is130 (by omega)) (Fs130.up rfl) ⟨es130.1, es130.2.1, es130.2.2.1, es130.2.2.2.1, es130.2.2.2.2.1, es130.2.2.2.2.2.1, rfl, es130.2.2.2.2.2.2.2.1, es130.2.2.2.2.2.2.2.2.1, es130.2.2.2.2.2.2.2.2.2.1, es130.2.2.2.2.2.2.2.2.2.2.1, es130.2.2.2.2.2.2.2.2.2.2.2.1, es130.2.2.2.2.2.2.2.2.2.2.2.2.1, es130.2.2.2.2.2.2.2.2.2.2.2.2.2.1, rfl⟩ (fun s133 Is133 Fs133 (es133 : s133 98 15 = tq103 98 15 ∧ s133 98 16 = tq103 98 16 ∧ s133 98 17 = tq103 98 17 ∧ s133 98 18 = tq103 98 18 ∧ s133 98 13 = tq103 98 13 ∧ s133 98 14 = tq103 98 14 ∧ s133 98 5 = ((σ2 98 5) + 1) ∧ s133 98 6 = σ2 98 6 ∧ s133 98 7 = 1 ∧ s133 98 8 = σ2 98 8 ∧ s133 98 9 = σ2 98 9 ∧ s133 101 18 = σ2 101 18 ∧ s133 101 25 = σ2 101 25 ∧ s133 101 43 = σ2 101 43 ∧ s133 = h_up s130 98 5 ((σ2 98 5) + 1)) => ?_))
            refine h_goto (pc' := 178) rfl rfl ?_
            refine h_vret rfl rfl (d_retn hlv84 ?_)
            refine d_toL (g_inj ns) hlw102 hRq103 (fun lvw134 memw134 hlw134 hRw134 => ?_)
            show h_T g_P (g_Y ns) 59 41 [(0, .ref 63), (1, .int x1)] [.int rq103x] sq103 _
            refine h_goto (pc' := 46) rfl rfl ?_
            refine h_istore_n (pc' := 47) (M := [(2, .int rq103x), (0, .ref 63), (1, .int x1)]) rfl rfl rfl rfl ?_
            refine h_aload_n (pc' := 48) rfl rfl rfl ?_
            refine h_getI (pc' := 51) (v := sq103 63 2) rfl rfl rfl rfl rfl rfl (fun z135 hz135 => ?_)
            have tz135 := tf_63_2 Isq103
            refine h_zne (tg := 63) (pc' := 54) rfl rfl rfl hz135 (fun c136 => absurd c136 (by omega)) (fun c136 => ?_)
            clear hz135
            refine h_aload_n (pc' := 55) rfl rfl rfl ?_
            refine h_getR (pc' := 58) rfl rfl rfl rfl rfl ?_
            refine h_iload_n (pc' := 59) rfl rfl rfl ?_
            refine h_iload_n (pc' := 60) rfl rfl rfl ?_
            refine h_call (sp := false) (pc' := 63) (M := [(0, .ref 66), (1, .int x1), (2, .int rq103x)]) rfl rfl rfl rfl rfl rfl rfl rfl ?_
            refine h_aload_n (pc' := 1) rfl rfl rfl ?_
            refine h_getI (pc' := 4) (v := σ1 66 8) rfl rfl rfl rfl rfl esq103_7 (fun z137 hz137 => ?_)
            refine h_bipush (pc' := 6) (x := (Int32.ofInt 6)) rfl rfl cb_6 ?_
            refine h_cge (tg := 39) (pc' := 9) rfl rfl rfl hz137 ci_6 (fun c138 => absurd c138 (by omega)) (fun c138 => ?_)
            clear hz137
            refine h_aload_n (pc' := 10) rfl rfl rfl ?_
            refine h_getR (pc' := 13) rfl rfl rfl rfl rfl ?_
            refine h_aload_n (pc' := 14) rfl rfl rfl ?_
            refine h_getI (pc' := 17) (v := σ1 66 8) rfl rfl rfl rfl rfl esq103_7 (fun z139 hz139 => ?_)
            refine h_iload_n (pc' := 18) rfl rfl rfl ?_
            refine h_iast (pc' := 19) rfl rfl rfl rfl hz139 (by omega) (by omega) hx1 (h_fgt (E := fun s => s 64 2 = sq103 64 2 ∧ s 64 4 = sq103 64 4 ∧ s 64 3 = sq103 64 3 ∧ s 64 5 = sq103 64 5 ∧ s 63 2 = sq103 63 2 ∧ s 63 3 = sq103 63 3 ∧ s 64 1 = σ1 64 1 ∧ s 66 8 = σ1 66 8 ∧ s 66 9 = σ1 66 9 ∧ s 66 10 = σ1 66 10 ∧ s 69 2 = σ1 69 2 ∧ s 72 2 = σ1 72 2 ∧ s 63 5 = σ1 63 5 ∧ s = h_up sq103 67 (σ1 66 8) a1) _ (in_67 Isq103 (by omega)) (Fsq103.up rfl) ⟨rfl, rfl, rfl, rfl, rfl, rfl, esq103_6, esq103_7, esq103_8, esq103_9, esq103_10, esq103_11, esq103_12, rfl⟩ (fun s140 Is140 Fs140 (es140 : s140 64 2 = sq103 64 2 ∧ s140 64 4 = sq103 64 4 ∧ s140 64 3 = sq103 64 3 ∧ s140 64 5 = sq103 64 5 ∧ s140 63 2 = sq103 63 2 ∧ s140 63 3 = sq103 63 3 ∧ s140 64 1 = σ1 64 1 ∧ s140 66 8 = σ1 66 8 ∧ s140 66 9 = σ1 66 9 ∧ s140 66 10 = σ1 66 10 ∧ s140 69 2 = σ1 69 2 ∧ s140 72 2 = σ1 72 2 ∧ s140 63 5 = σ1 63 5 ∧ s140 = h_up sq103 67 (σ1 66 8) a1) => ?_))
            clear hz139
            refine h_aload_n (pc' := 20) rfl rfl rfl ?_
            refine h_getR (pc' := 23) rfl rfl rfl rfl rfl ?_
            refine h_aload_n (pc' := 24) rfl rfl rfl ?_
            refine h_getI (pc' := 27) (v := σ1 66 8) rfl rfl rfl rfl rfl es140.2.2.2.2.2.2.2.1 (fun z141 hz141 => ?_)
            refine h_iload_n (pc' := 28) rfl rfl rfl ?_
            refine h_iast (pc' := 29) rfl rfl rfl rfl hz141 (by omega) (by omega) hq103x (h_fgt (E := fun s => s 64 2 = sq103 64 2 ∧ s 64 4 = sq103 64 4 ∧ s 64 3 = sq103 64 3 ∧ s 64 5 = sq103 64 5 ∧ s 63 2 = sq103 63 2 ∧ s 63 3 = sq103 63 3 ∧ s 64 1 = σ1 64 1 ∧ s 66 8 = σ1 66 8 ∧ s 66 9 = σ1 66 9 ∧ s 66 10 = σ1 66 10 ∧ s 69 2 = σ1 69 2 ∧ s 72 2 = σ1 72 2 ∧ s 63 5 = σ1 63 5 ∧ s = h_up s140 68 (σ1 66 8) bq103x) _ (in_68 Is140 (by omega)) (Fs140.up rfl) ⟨es140.1, es140.2.1, es140.2.2.1, es140.2.2.2.1, es140.2.2.2.2.1, es140.2.2.2.2.2.1, es140.2.2.2.2.2.2.1, es140.2.2.2.2.2.2.2.1, es140.2.2.2.2.2.2.2.2.1, es140.2.2.2.2.2.2.2.2.2.1, es140.2.2.2.2.2.2.2.2.2.2.1, es140.2.2.2.2.2.2.2.2.2.2.2.1, es140.2.2.2.2.2.2.2.2.2.2.2.2.1, rfl⟩ (fun s142 Is142 Fs142 (es142 : s142 64 2 = sq103 64 2 ∧ s142 64 4 = sq103 64 4 ∧ s142 64 3 = sq103 64 3 ∧ s142 64 5 = sq103 64 5 ∧ s142 63 2 = sq103 63 2 ∧ s142 63 3 = sq103 63 3 ∧ s142 64 1 = σ1 64 1 ∧ s142 66 8 = σ1 66 8 ∧ s142 66 9 = σ1 66 9 ∧ s142 66 10 = σ1 66 10 ∧ s142 69 2 = σ1 69 2 ∧ s142 72 2 = σ1 72 2 ∧ s142 63 5 = σ1 63 5 ∧ s142 = h_up s140 68 (σ1 66 8) bq103x) => ?_))
            clear hz141
            refine h_aload_n (pc' := 30) rfl rfl rfl ?_
            refine h_dup (pc' := 31) rfl rfl rfl ?_
            refine h_getI (pc' := 34) (v := σ1 66 8) rfl rfl rfl rfl rfl es142.2.2.2.2.2.2.2.1 (fun z143 hz143 => ?_)
            refine h_iconst (pc' := 35) (x := (Int32.ofInt 1)) rfl rfl rfl ?_
            refine h_iadd (pc' := 36) rfl rfl hz143 ci_1 rfl (by omega) (by omega) (fun z144 hz144 => ?_)
            clear hz143
            refine h_put (pc' := 39) rfl rfl rfl rfl rfl rfl hz144 rfl (h_fgt (E := fun s => s 64 2 = sq103 64 2 ∧ s 64 4 = sq103 64 4 ∧ s 64 3 = sq103 64 3 ∧ s 64 5 = sq103 64 5 ∧ s 63 2 = sq103 63 2 ∧ s 63 3 = sq103 63 3 ∧ s 64 1 = σ1 64 1 ∧ s 66 8 = ((σ1 66 8) + 1) ∧ s 66 9 = σ1 66 9 ∧ s 66 10 = σ1 66 10 ∧ s 69 2 = σ1 69 2 ∧ s 72 2 = σ1 72 2 ∧ s 63 5 = σ1 63 5 ∧ s = h_up s142 66 8 ((σ1 66 8) + 1)) _ (if_66_8 Is142 (by omega)) (Fs142.up rfl) ⟨es142.1, es142.2.1, es142.2.2.1, es142.2.2.2.1, es142.2.2.2.2.1, es142.2.2.2.2.2.1, es142.2.2.2.2.2.2.1, rfl, es142.2.2.2.2.2.2.2.2.1, es142.2.2.2.2.2.2.2.2.2.1, es142.2.2.2.2.2.2.2.2.2.2.1, es142.2.2.2.2.2.2.2.2.2.2.2.1, es142.2.2.2.2.2.2.2.2.2.2.2.2.1, rfl⟩ (fun s145 Is145 Fs145 (es145 : s145 64 2 = sq103 64 2 ∧ s145 64 4 = sq103 64 4 ∧ s145 64 3 = sq103 64 3 ∧ s145 64 5 = sq103 64 5 ∧ s145 63 2 = sq103 63 2 ∧ s145 63 3 = sq103 63 3 ∧ s145 64 1 = σ1 64 1 ∧ s145 66 8 = ((σ1 66 8) + 1) ∧ s145 66 9 = σ1 66 9 ∧ s145 66 10 = σ1 66 10 ∧ s145 69 2 = σ1 69 2 ∧ s145 72 2 = σ1 72 2 ∧ s145 63 5 = σ1 63 5 ∧ s145 = h_up s142 66 8 ((σ1 66 8) + 1)) => ?_))
            refine h_vret rfl rfl (h_Kn ?_)
            refine h_vret rfl rfl (d_retn hlv1 ?_)
            clear hq103x
            exact h_wk [(0, .ref 63)] ⟨rfl, trivial⟩ (kx0 _ _ Is145 Is133 Fs145 Fs133 (by omega) (by omega) (by omega) (by omega) (by omega) (fun _ => d_mk (es145.2.2.2.2.2.2.2.1) (es145.2.2.2.2.2.2.2.2.1) (es145.2.2.2.2.2.2.2.2.2.1) (es145.2.2.2.2.2.2.2.2.2.2.1) (es145.2.2.2.2.2.2.2.2.2.2.2.1) (es145.2.2.2.2.2.2.2.2.2.2.2.2.1) (fun j => (h_upo es145.2.2.2.2.2.2.2.2.2.2.2.2.2 rfl j).trans ((h_upo es142.2.2.2.2.2.2.2.2.2.2.2.2.2 rfl j).trans ((h_upi es140.2.2.2.2.2.2.2.2.2.2.2.2.2 j).trans (congrArg (fun z => if j = (σ1 66 8) then a1 else z) ((Gsq103 67 j rfl).trans ((Gsq17 67 j rfl))))))) (fun j => (h_upo es145.2.2.2.2.2.2.2.2.2.2.2.2.2 rfl j).trans ((h_upi es142.2.2.2.2.2.2.2.2.2.2.2.2.2 j).trans (congrArg (fun z => if j = (σ1 66 8) then bq103x else z) ((h_upo es140.2.2.2.2.2.2.2.2.2.2.2.2.2 rfl j).trans ((Gsq103 68 j rfl).trans ((Gsq17 68 j rfl))))))) (fun j => (h_upo es145.2.2.2.2.2.2.2.2.2.2.2.2.2 rfl j).trans ((h_upo es142.2.2.2.2.2.2.2.2.2.2.2.2.2 rfl j).trans ((h_upo es140.2.2.2.2.2.2.2.2.2.2.2.2.2 rfl j).trans ((Gsq103 70 j rfl).trans ((Gsq17 70 j rfl)))))) (fun j => (h_upo es145.2.2.2.2.2.2.2.2.2.2.2.2.2 rfl j).trans ((h_upo es142.2.2.2.2.2.2.2.2.2.2.2.2.2 rfl j).trans ((h_upo es140.2.2.2.2.2.2.2.2.2.2.2.2.2 rfl j).trans ((Gsq103 71 j rfl).trans ((Gsq17 71 j rfl)))))) (fun j => (h_upo es145.2.2.2.2.2.2.2.2.2.2.2.2.2 rfl j).trans ((h_upo es142.2.2.2.2.2.2.2.2.2.2.2.2.2 rfl j).trans ((h_upo es140.2.2.2.2.2.2.2.2.2.2.2.2.2 rfl j).trans ((Gsq103 73 j rfl).trans ((Gsq17 73 j rfl)))))) (fun j => (h_upo es145.2.2.2.2.2.2.2.2.2.2.2.2.2 rfl j).trans ((h_upo es142.2.2.2.2.2.2.2.2.2.2.2.2.2 rfl j).trans ((h_upo es140.2.2.2.2.2.2.2.2.2.2.2.2.2 rfl j).trans ((Gsq103 74 j rfl).trans ((Gsq17 74 j rfl)))))) (fun j => (h_upo es145.2.2.2.2.2.2.2.2.2.2.2.2.2 rfl j).trans ((h_upo es142.2.2.2.2.2.2.2.2.2.2.2.2.2 rfl j).trans ((h_upo es140.2.2.2.2.2.2.2.2.2.2.2.2.2 rfl j).trans ((Gsq103 75 j rfl).trans ((Gsq17 75 j rfl)))))) (fun j => (h_upo es145.2.2.2.2.2.2.2.2.2.2.2.2.2 rfl j).trans ((h_upo es142.2.2.2.2.2.2.2.2.2.2.2.2.2 rfl j).trans ((h_upo es140.2.2.2.2.2.2.2.2.2.2.2.2.2 rfl j).trans ((Gsq103 76 j rfl).trans ((Gsq17 76 j rfl)))))) (fun j => (h_upo es145.2.2.2.2.2.2.2.2.2.2.2.2.2 rfl j).trans ((h_upo es142.2.2.2.2.2.2.2.2.2.2.2.2.2 rfl j).trans ((h_upo es140.2.2.2.2.2.2.2.2.2.2.2.2.2 rfl j).trans ((Gsq103 77 j rfl).trans ((Gsq17 77 j rfl)))))) (fun j => (h_upo es145.2.2.2.2.2.2.2.2.2.2.2.2.2 rfl j).trans ((h_upo es142.2.2.2.2.2.2.2.2.2.2.2.2.2 rfl j).trans ((h_upo es140.2.2.2.2.2.2.2.2.2.2.2.2.2 rfl j).trans ((Gsq103 78 j rfl).trans ((Gsq17 78 j rfl)))))) (es133.2.2.2.2.2.2.1) (es133.2.2.2.2.2.2.2.1) (es133.2.2.2.2.2.2.2.2.1) (es133.2.2.2.2.2.2.2.2.2.1) (es133.2.2.2.2.2.2.2.2.2.2.1) (fun j => (h_upo es133.2.2.2.2.2.2.2.2.2.2.2.2.2.2 rfl j).trans ((h_upi es130.2.2.2.2.2.2.2.2.2.2.2.2.2.2 j).trans (congrArg (fun z => if j = (6 + (σ2 98 5)) then (bq103m + 1) else z) ((Gtq103 101 j rfl).trans ((h_upi es87.2.2.2.2.2.2.2.2.2.2.2.2.2.2 j).trans (congrArg (fun z => if j = (σ2 98 5) then c1 else z) ((Gtq17 101 j rfl).trans ((h_upo es16.2.2.2.2.2.2.2.2.2.2.2.2.2.2 rfl j))))))))) (r_one1 pr12 (by omega) (by omega) (by omega) (by omega) (by omega) (by omega) (by omega) (by omega) (by omega) (by omega))) (Or.inr (Or.inr (Or.inl ⟨by omega, by omega, by omega, by omega, by omega, by omega⟩))) _ _ (h_al_ok ⟨rfl, trivial⟩ hlw134) hRw134)
          · show h_T g_P (g_Y ns) 153 45 [(0, .ref 98), (1, .int y1)] [.int rq103m, .int z91, .ref 101] tq103 _
            clear hz101 hz93
            refine h_iconst (pc' := 46) (x := (Int32.ofInt 1)) rfl rfl rfl ?_
            refine h_iadd (pc' := 47) rfl rfl hq103m ci_1 rfl (by have g0 := h_rgv hq103m; omega) (by have g0 := h_rgv hq103m; omega) (fun z146 hz146 => ?_)
            clear hq103m
            refine h_iast (pc' := 48) rfl rfl rfl rfl hz91 (by omega) (by omega) hz146 (h_fgt (E := fun s => s 98 15 = tq103 98 15 ∧ s 98 16 = tq103 98 16 ∧ s 98 17 = tq103 98 17 ∧ s 98 18 = tq103 98 18 ∧ s 98 13 = tq103 98 13 ∧ s 98 14 = tq103 98 14 ∧ s 98 5 = σ2 98 5 ∧ s 98 6 = σ2 98 6 ∧ s 98 7 = 1 ∧ s 98 8 = σ2 98 8 ∧ s 98 9 = σ2 98 9 ∧ s 101 18 = σ2 101 18 ∧ s 101 25 = σ2 101 25 ∧ s 101 43 = σ2 101 43 ∧ s = h_up tq103 101 (6 + (σ2 98 5)) (bq103m + 1)) _ (ip_101_1 Itq103 (by omega) (by omega)) (Ftq103.up rfl) ⟨rfl, rfl, rfl, rfl, rfl, rfl, etq103_6, etq103_7, etq103_8, etq103_9, etq103_10, h_up_n2 (by omega) etq103_11, h_up_n2 (by omega) etq103_12, h_up_n2 (by omega) etq103_13, rfl⟩ (fun s147 Is147 Fs147 (es147 : s147 98 15 = tq103 98 15 ∧ s147 98 16 = tq103 98 16 ∧ s147 98 17 = tq103 98 17 ∧ s147 98 18 = tq103 98 18 ∧ s147 98 13 = tq103 98 13 ∧ s147 98 14 = tq103 98 14 ∧ s147 98 5 = σ2 98 5 ∧ s147 98 6 = σ2 98 6 ∧ s147 98 7 = 1 ∧ s147 98 8 = σ2 98 8 ∧ s147 98 9 = σ2 98 9 ∧ s147 101 18 = σ2 101 18 ∧ s147 101 25 = σ2 101 25 ∧ s147 101 43 = σ2 101 43 ∧ s147 = h_up tq103 101 (6 + (σ2 98 5)) (bq103m + 1)) => ?_))
            clear hz146 hz91
            refine h_aload_n (pc' := 49) rfl rfl rfl ?_
            refine h_dup (pc' := 50) rfl rfl rfl ?_
            refine h_getI (pc' := 53) (v := σ2 98 5) rfl rfl rfl rfl rfl es147.2.2.2.2.2.2.1 (fun z148 hz148 => ?_)
            refine h_iconst (pc' := 54) (x := (Int32.ofInt 1)) rfl rfl rfl ?_
            refine h_iadd (pc' := 55) rfl rfl hz148 ci_1 rfl (by omega) (by omega) (fun z149 hz149 => ?_)
            clear hz148
            refine h_put (pc' := 58) rfl rfl rfl rfl rfl rfl hz149 rfl (h_fgt (E := fun s => s 98 15 = tq103 98 15 ∧ s 98 16 = tq103 98 16 ∧ s 98 17 = tq103 98 17 ∧ s 98 18 = tq103 98 18 ∧ s 98 13 = tq103 98 13 ∧ s 98 14 = tq103 98 14 ∧ s 98 5 = ((σ2 98 5) + 1) ∧ s 98 6 = σ2 98 6 ∧ s 98 7 = 1 ∧ s 98 8 = σ2 98 8 ∧ s 98 9 = σ2 98 9 ∧ s 101 18 = σ2 101 18 ∧ s 101 25 = σ2 101 25 ∧ s 101 43 = σ2 101 43 ∧ s = h_up s147 98 5 ((σ2 98 5) + 1)) _ (if_98_5 Is147 (by omega)) (Fs147.up rfl) ⟨es147.1, es147.2.1, es147.2.2.1, es147.2.2.2.1, es147.2.2.2.2.1, es147.2.2.2.2.2.1, rfl, es147.2.2.2.2.2.2.2.1, es147.2.2.2.2.2.2.2.2.1, es147.2.2.2.2.2.2.2.2.2.1, es147.2.2.2.2.2.2.2.2.2.2.1, es147.2.2.2.2.2.2.2.2.2.2.2.1, es147.2.2.2.2.2.2.2.2.2.2.2.2.1, es147.2.2.2.2.2.2.2.2.2.2.2.2.2.1, rfl⟩ (fun s150 Is150 Fs150 (es150 : s150 98 15 = tq103 98 15 ∧ s150 98 16 = tq103 98 16 ∧ s150 98 17 = tq103 98 17 ∧ s150 98 18 = tq103 98 18 ∧ s150 98 13 = tq103 98 13 ∧ s150 98 14 = tq103 98 14 ∧ s150 98 5 = ((σ2 98 5) + 1) ∧ s150 98 6 = σ2 98 6 ∧ s150 98 7 = 1 ∧ s150 98 8 = σ2 98 8 ∧ s150 98 9 = σ2 98 9 ∧ s150 101 18 = σ2 101 18 ∧ s150 101 25 = σ2 101 25 ∧ s150 101 43 = σ2 101 43 ∧ s150 = h_up s147 98 5 ((σ2 98 5) + 1)) => ?_))
            refine h_goto (pc' := 178) rfl rfl ?_
            refine h_vret rfl rfl (d_retn hlv84 ?_)
            refine d_toL (g_inj ns) hlw102 hRq103 (fun lvw151 memw151 hlw151 hRw151 => ?_)
            show h_T g_P (g_Y ns) 59 41 [(0, .ref 63), (1, .int x1)] [.int rq103x] sq103 _
            refine h_goto (pc' := 46) rfl rfl ?_
            refine h_istore_n (pc' := 47) (M := [(2, .int rq103x), (0, .ref 63), (1, .int x1)]) rfl rfl rfl rfl ?_
            refine h_aload_n (pc' := 48) rfl rfl rfl ?_
            refine h_getI (pc' := 51) (v := sq103 63 2) rfl rfl rfl rfl rfl rfl (fun z152 hz152 => ?_)
            have tz152 := tf_63_2 Isq103
            refine h_zne (tg := 63) (pc' := 54) rfl rfl rfl hz152 (fun c153 => absurd c153 (by omega)) (fun c153 => ?_)
            clear hz152
            refine h_aload_n (pc' := 55) rfl rfl rfl ?_
            refine h_getR (pc' := 58) rfl rfl rfl rfl rfl ?_
            refine h_iload_n (pc' := 59) rfl rfl rfl ?_
            refine h_iload_n (pc' := 60) rfl rfl rfl ?_
            refine h_call (sp := false) (pc' := 63) (M := [(0, .ref 66), (1, .int x1), (2, .int rq103x)]) rfl rfl rfl rfl rfl rfl rfl rfl ?_
            refine h_aload_n (pc' := 1) rfl rfl rfl ?_
            refine h_getI (pc' := 4) (v := σ1 66 8) rfl rfl rfl rfl rfl esq103_7 (fun z154 hz154 => ?_)
            refine h_bipush (pc' := 6) (x := (Int32.ofInt 6)) rfl rfl cb_6 ?_
            refine h_cge (tg := 39) (pc' := 9) rfl rfl rfl hz154 ci_6 (fun c155 => absurd c155 (by omega)) (fun c155 => ?_)
            clear hz154
            refine h_aload_n (pc' := 10) rfl rfl rfl ?_
            refine h_getR (pc' := 13) rfl rfl rfl rfl rfl ?_
            refine h_aload_n (pc' := 14) rfl rfl rfl ?_
            refine h_getI (pc' := 17) (v := σ1 66 8) rfl rfl rfl rfl rfl esq103_7 (fun z156 hz156 => ?_)
            refine h_iload_n (pc' := 18) rfl rfl rfl ?_
            refine h_iast (pc' := 19) rfl rfl rfl rfl hz156 (by omega) (by omega) hx1 (h_fgt (E := fun s => s 64 2 = sq103 64 2 ∧ s 64 4 = sq103 64 4 ∧ s 64 3 = sq103 64 3 ∧ s 64 5 = sq103 64 5 ∧ s 63 2 = sq103 63 2 ∧ s 63 3 = sq103 63 3 ∧ s 64 1 = σ1 64 1 ∧ s 66 8 = σ1 66 8 ∧ s 66 9 = σ1 66 9 ∧ s 66 10 = σ1 66 10 ∧ s 69 2 = σ1 69 2 ∧ s 72 2 = σ1 72 2 ∧ s 63 5 = σ1 63 5 ∧ s = h_up sq103 67 (σ1 66 8) a1) _ (in_67 Isq103 (by omega)) (Fsq103.up rfl) ⟨rfl, rfl, rfl, rfl, rfl, rfl, esq103_6, esq103_7, esq103_8, esq103_9, esq103_10, esq103_11, esq103_12, rfl⟩ (fun s157 Is157 Fs157 (es157 : s157 64 2 = sq103 64 2 ∧ s157 64 4 = sq103 64 4 ∧ s157 64 3 = sq103 64 3 ∧ s157 64 5 = sq103 64 5 ∧ s157 63 2 = sq103 63 2 ∧ s157 63 3 = sq103 63 3 ∧ s157 64 1 = σ1 64 1 ∧ s157 66 8 = σ1 66 8 ∧ s157 66 9 = σ1 66 9 ∧ s157 66 10 = σ1 66 10 ∧ s157 69 2 = σ1 69 2 ∧ s157 72 2 = σ1 72 2 ∧ s157 63 5 = σ1 63 5 ∧ s157 = h_up sq103 67 (σ1 66 8) a1) => ?_))
            clear hz156
            refine h_aload_n (pc' := 20) rfl rfl rfl ?_
            refine h_getR (pc' := 23) rfl rfl rfl rfl rfl ?_
            refine h_aload_n (pc' := 24) rfl rfl rfl ?_
            refine h_getI (pc' := 27) (v := σ1 66 8) rfl rfl rfl rfl rfl es157.2.2.2.2.2.2.2.1 (fun z158 hz158 => ?_)
            refine h_iload_n (pc' := 28) rfl rfl rfl ?_
            refine h_iast (pc' := 29) rfl rfl rfl rfl hz158 (by omega) (by omega) hq103x (h_fgt (E := fun s => s 64 2 = sq103 64 2 ∧ s 64 4 = sq103 64 4 ∧ s 64 3 = sq103 64 3 ∧ s 64 5 = sq103 64 5 ∧ s 63 2 = sq103 63 2 ∧ s 63 3 = sq103 63 3 ∧ s 64 1 = σ1 64 1 ∧ s 66 8 = σ1 66 8 ∧ s 66 9 = σ1 66 9 ∧ s 66 10 = σ1 66 10 ∧ s 69 2 = σ1 69 2 ∧ s 72 2 = σ1 72 2 ∧ s 63 5 = σ1 63 5 ∧ s = h_up s157 68 (σ1 66 8) bq103x) _ (in_68 Is157 (by omega)) (Fs157.up rfl) ⟨es157.1, es157.2.1, es157.2.2.1, es157.2.2.2.1, es157.2.2.2.2.1, es157.2.2.2.2.2.1, es157.2.2.2.2.2.2.1, es157.2.2.2.2.2.2.2.1, es157.2.2.2.2.2.2.2.2.1, es157.2.2.2.2.2.2.2.2.2.1, es157.2.2.2.2.2.2.2.2.2.2.1, es157.2.2.2.2.2.2.2.2.2.2.2.1, es157.2.2.2.2.2.2.2.2.2.2.2.2.1, rfl⟩ (fun s159 Is159 Fs159 (es159 : s159 64 2 = sq103 64 2 ∧ s159 64 4 = sq103 64 4 ∧ s159 64 3 = sq103 64 3 ∧ s159 64 5 = sq103 64 5 ∧ s159 63 2 = sq103 63 2 ∧ s159 63 3 = sq103 63 3 ∧ s159 64 1 = σ1 64 1 ∧ s159 66 8 = σ1 66 8 ∧ s159 66 9 = σ1 66 9 ∧ s159 66 10 = σ1 66 10 ∧ s159 69 2 = σ1 69 2 ∧ s159 72 2 = σ1 72 2 ∧ s159 63 5 = σ1 63 5 ∧ s159 = h_up s157 68 (σ1 66 8) bq103x) => ?_))
            clear hz158
            refine h_aload_n (pc' := 30) rfl rfl rfl ?_
            refine h_dup (pc' := 31) rfl rfl rfl ?_
            refine h_getI (pc' := 34) (v := σ1 66 8) rfl rfl rfl rfl rfl es159.2.2.2.2.2.2.2.1 (fun z160 hz160 => ?_)
            refine h_iconst (pc' := 35) (x := (Int32.ofInt 1)) rfl rfl rfl ?_
            refine h_iadd (pc' := 36) rfl rfl hz160 ci_1 rfl (by omega) (by omega) (fun z161 hz161 => ?_)
            clear hz160
            refine h_put (pc' := 39) rfl rfl rfl rfl rfl rfl hz161 rfl (h_fgt (E := fun s => s 64 2 = sq103 64 2 ∧ s 64 4 = sq103 64 4 ∧ s 64 3 = sq103 64 3 ∧ s 64 5 = sq103 64 5 ∧ s 63 2 = sq103 63 2 ∧ s 63 3 = sq103 63 3 ∧ s 64 1 = σ1 64 1 ∧ s 66 8 = ((σ1 66 8) + 1) ∧ s 66 9 = σ1 66 9 ∧ s 66 10 = σ1 66 10 ∧ s 69 2 = σ1 69 2 ∧ s 72 2 = σ1 72 2 ∧ s 63 5 = σ1 63 5 ∧ s = h_up s159 66 8 ((σ1 66 8) + 1)) _ (if_66_8 Is159 (by omega)) (Fs159.up rfl) ⟨es159.1, es159.2.1, es159.2.2.1, es159.2.2.2.1, es159.2.2.2.2.1, es159.2.2.2.2.2.1, es159.2.2.2.2.2.2.1, rfl, es159.2.2.2.2.2.2.2.2.1, es159.2.2.2.2.2.2.2.2.2.1, es159.2.2.2.2.2.2.2.2.2.2.1, es159.2.2.2.2.2.2.2.2.2.2.2.1, es159.2.2.2.2.2.2.2.2.2.2.2.2.1, rfl⟩ (fun s162 Is162 Fs162 (es162 : s162 64 2 = sq103 64 2 ∧ s162 64 4 = sq103 64 4 ∧ s162 64 3 = sq103 64 3 ∧ s162 64 5 = sq103 64 5 ∧ s162 63 2 = sq103 63 2 ∧ s162 63 3 = sq103 63 3 ∧ s162 64 1 = σ1 64 1 ∧ s162 66 8 = ((σ1 66 8) + 1) ∧ s162 66 9 = σ1 66 9 ∧ s162 66 10 = σ1 66 10 ∧ s162 69 2 = σ1 69 2 ∧ s162 72 2 = σ1 72 2 ∧ s162 63 5 = σ1 63 5 ∧ s162 = h_up s159 66 8 ((σ1 66 8) + 1)) => ?_))
            refine h_vret rfl rfl (h_Kn ?_)
            refine h_vret rfl rfl (d_retn hlv1 ?_)
            clear hq103x
            exact h_wk [(0, .ref 63)] ⟨rfl, trivial⟩ (kx0 _ _ Is162 Is150 Fs162 Fs150 (by omega) (by omega) (by omega) (by omega) (by omega) (fun _ => d_mk (es162.2.2.2.2.2.2.2.1) (es162.2.2.2.2.2.2.2.2.1) (es162.2.2.2.2.2.2.2.2.2.1) (es162.2.2.2.2.2.2.2.2.2.2.1) (es162.2.2.2.2.2.2.2.2.2.2.2.1) (es162.2.2.2.2.2.2.2.2.2.2.2.2.1) (fun j => (h_upo es162.2.2.2.2.2.2.2.2.2.2.2.2.2 rfl j).trans ((h_upo es159.2.2.2.2.2.2.2.2.2.2.2.2.2 rfl j).trans ((h_upi es157.2.2.2.2.2.2.2.2.2.2.2.2.2 j).trans (congrArg (fun z => if j = (σ1 66 8) then a1 else z) ((Gsq103 67 j rfl).trans ((Gsq17 67 j rfl))))))) (fun j => (h_upo es162.2.2.2.2.2.2.2.2.2.2.2.2.2 rfl j).trans ((h_upi es159.2.2.2.2.2.2.2.2.2.2.2.2.2 j).trans (congrArg (fun z => if j = (σ1 66 8) then bq103x else z) ((h_upo es157.2.2.2.2.2.2.2.2.2.2.2.2.2 rfl j).trans ((Gsq103 68 j rfl).trans ((Gsq17 68 j rfl))))))) (fun j => (h_upo es162.2.2.2.2.2.2.2.2.2.2.2.2.2 rfl j).trans ((h_upo es159.2.2.2.2.2.2.2.2.2.2.2.2.2 rfl j).trans ((h_upo es157.2.2.2.2.2.2.2.2.2.2.2.2.2 rfl j).trans ((Gsq103 70 j rfl).trans ((Gsq17 70 j rfl)))))) (fun j => (h_upo es162.2.2.2.2.2.2.2.2.2.2.2.2.2 rfl j).trans ((h_upo es159.2.2.2.2.2.2.2.2.2.2.2.2.2 rfl j).trans ((h_upo es157.2.2.2.2.2.2.2.2.2.2.2.2.2 rfl j).trans ((Gsq103 71 j rfl).trans ((Gsq17 71 j rfl)))))) (fun j => (h_upo es162.2.2.2.2.2.2.2.2.2.2.2.2.2 rfl j).trans ((h_upo es159.2.2.2.2.2.2.2.2.2.2.2.2.2 rfl j).trans ((h_upo es157.2.2.2.2.2.2.2.2.2.2.2.2.2 rfl j).trans ((Gsq103 73 j rfl).trans ((Gsq17 73 j rfl)))))) (fun j => (h_upo es162.2.2.2.2.2.2.2.2.2.2.2.2.2 rfl j).trans ((h_upo es159.2.2.2.2.2.2.2.2.2.2.2.2.2 rfl j).trans ((h_upo es157.2.2.2.2.2.2.2.2.2.2.2.2.2 rfl j).trans ((Gsq103 74 j rfl).trans ((Gsq17 74 j rfl)))))) (fun j => (h_upo es162.2.2.2.2.2.2.2.2.2.2.2.2.2 rfl j).trans ((h_upo es159.2.2.2.2.2.2.2.2.2.2.2.2.2 rfl j).trans ((h_upo es157.2.2.2.2.2.2.2.2.2.2.2.2.2 rfl j).trans ((Gsq103 75 j rfl).trans ((Gsq17 75 j rfl)))))) (fun j => (h_upo es162.2.2.2.2.2.2.2.2.2.2.2.2.2 rfl j).trans ((h_upo es159.2.2.2.2.2.2.2.2.2.2.2.2.2 rfl j).trans ((h_upo es157.2.2.2.2.2.2.2.2.2.2.2.2.2 rfl j).trans ((Gsq103 76 j rfl).trans ((Gsq17 76 j rfl)))))) (fun j => (h_upo es162.2.2.2.2.2.2.2.2.2.2.2.2.2 rfl j).trans ((h_upo es159.2.2.2.2.2.2.2.2.2.2.2.2.2 rfl j).trans ((h_upo es157.2.2.2.2.2.2.2.2.2.2.2.2.2 rfl j).trans ((Gsq103 77 j rfl).trans ((Gsq17 77 j rfl)))))) (fun j => (h_upo es162.2.2.2.2.2.2.2.2.2.2.2.2.2 rfl j).trans ((h_upo es159.2.2.2.2.2.2.2.2.2.2.2.2.2 rfl j).trans ((h_upo es157.2.2.2.2.2.2.2.2.2.2.2.2.2 rfl j).trans ((Gsq103 78 j rfl).trans ((Gsq17 78 j rfl)))))) (es150.2.2.2.2.2.2.1) (es150.2.2.2.2.2.2.2.1) (es150.2.2.2.2.2.2.2.2.1) (es150.2.2.2.2.2.2.2.2.2.1) (es150.2.2.2.2.2.2.2.2.2.2.1) (fun j => (h_upo es150.2.2.2.2.2.2.2.2.2.2.2.2.2.2 rfl j).trans ((h_upi es147.2.2.2.2.2.2.2.2.2.2.2.2.2.2 j).trans (congrArg (fun z => if j = (6 + (σ2 98 5)) then (bq103m + 1) else z) ((Gtq103 101 j rfl).trans ((h_upi es87.2.2.2.2.2.2.2.2.2.2.2.2.2.2 j).trans (congrArg (fun z => if j = (σ2 98 5) then c1 else z) ((Gtq17 101 j rfl).trans ((h_upo es16.2.2.2.2.2.2.2.2.2.2.2.2.2.2 rfl j))))))))) (r_one1 pr12 (by omega) (by omega) (by omega) (by omega) (by omega) (by omega) (by omega) (by omega) (by omega) (by omega))) (Or.inr (Or.inr (Or.inr (Or.inl ⟨by omega, by omega, by omega, by omega, by omega, by omega, by omega, by omega, by omega⟩)))) _ _ (h_al_ok ⟨rfl, trivial⟩ hlw151) hRw151)
          · show h_T g_P (g_Y ns) 153 45 [(0, .ref 98), (1, .int y1)] [.int rq103m, .int z91, .ref 101] tq103 _
            clear hz101 hz93
            refine h_iconst (pc' := 46) (x := (Int32.ofInt 1)) rfl rfl rfl ?_
            refine h_iadd (pc' := 47) rfl rfl hq103m ci_1 rfl (by have g0 := h_rgv hq103m; omega) (by have g0 := h_rgv hq103m; omega) (fun z163 hz163 => ?_)
            clear hq103m
            refine h_iast (pc' := 48) rfl rfl rfl rfl hz91 (by omega) (by omega) hz163 (h_fgt (E := fun s => s 98 15 = tq103 98 15 ∧ s 98 16 = tq103 98 16 ∧ s 98 17 = tq103 98 17 ∧ s 98 18 = tq103 98 18 ∧ s 98 13 = tq103 98 13 ∧ s 98 14 = tq103 98 14 ∧ s 98 5 = σ2 98 5 ∧ s 98 6 = σ2 98 6 ∧ s 98 7 = 1 ∧ s 98 8 = σ2 98 8 ∧ s 98 9 = σ2 98 9 ∧ s 101 18 = σ2 101 18 ∧ s 101 25 = σ2 101 25 ∧ s 101 43 = σ2 101 43 ∧ s = h_up tq103 101 (6 + (σ2 98 5)) (bq103m + 1)) _ (ip_101_1 Itq103 (by omega) (by omega)) (Ftq103.up rfl) ⟨rfl, rfl, rfl, rfl, rfl, rfl, etq103_6, etq103_7, etq103_8, etq103_9, etq103_10, h_up_n2 (by omega) etq103_11, h_up_n2 (by omega) etq103_12, h_up_n2 (by omega) etq103_13, rfl⟩ (fun s164 Is164 Fs164 (es164 : s164 98 15 = tq103 98 15 ∧ s164 98 16 = tq103 98 16 ∧ s164 98 17 = tq103 98 17 ∧ s164 98 18 = tq103 98 18 ∧ s164 98 13 = tq103 98 13 ∧ s164 98 14 = tq103 98 14 ∧ s164 98 5 = σ2 98 5 ∧ s164 98 6 = σ2 98 6 ∧ s164 98 7 = 1 ∧ s164 98 8 = σ2 98 8 ∧ s164 98 9 = σ2 98 9 ∧ s164 101 18 = σ2 101 18 ∧ s164 101 25 = σ2 101 25 ∧ s164 101 43 = σ2 101 43 ∧ s164 = h_up tq103 101 (6 + (σ2 98 5)) (bq103m + 1)) => ?_))
            clear hz163 hz91
            refine h_aload_n (pc' := 49) rfl rfl rfl ?_
            refine h_dup (pc' := 50) rfl rfl rfl ?_
            refine h_getI (pc' := 53) (v := σ2 98 5) rfl rfl rfl rfl rfl es164.2.2.2.2.2.2.1 (fun z165 hz165 => ?_)
            refine h_iconst (pc' := 54) (x := (Int32.ofInt 1)) rfl rfl rfl ?_
            refine h_iadd (pc' := 55) rfl rfl hz165 ci_1 rfl (by omega) (by omega) (fun z166 hz166 => ?_)
            clear hz165
            refine h_put (pc' := 58) rfl rfl rfl rfl rfl rfl hz166 rfl (h_fgt (E := fun s => s 98 15 = tq103 98 15 ∧ s 98 16 = tq103 98 16 ∧ s 98 17 = tq103 98 17 ∧ s 98 18 = tq103 98 18 ∧ s 98 13 = tq103 98 13 ∧ s 98 14 = tq103 98 14 ∧ s 98 5 = ((σ2 98 5) + 1) ∧ s 98 6 = σ2 98 6 ∧ s 98 7 = 1 ∧ s 98 8 = σ2 98 8 ∧ s 98 9 = σ2 98 9 ∧ s 101 18 = σ2 101 18 ∧ s 101 25 = σ2 101 25 ∧ s 101 43 = σ2 101 43 ∧ s = h_up s164 98 5 ((σ2 98 5) + 1)) _ (if_98_5 Is164 (by omega)) (Fs164.up rfl) ⟨es164.1, es164.2.1, es164.2.2.1, es164.2.2.2.1, es164.2.2.2.2.1, es164.2.2.2.2.2.1, rfl, es164.2.2.2.2.2.2.2.1, es164.2.2.2.2.2.2.2.2.1, es164.2.2.2.2.2.2.2.2.2.1, es164.2.2.2.2.2.2.2.2.2.2.1, es164.2.2.2.2.2.2.2.2.2.2.2.1, es164.2.2.2.2.2.2.2.2.2.2.2.2.1, es164.2.2.2.2.2.2.2.2.2.2.2.2.2.1, rfl⟩ (fun s167 Is167 Fs167 (es167 : s167 98 15 = tq103 98 15 ∧ s167 98 16 = tq103 98 16 ∧ s167 98 17 = tq103 98 17 ∧ s167 98 18 = tq103 98 18 ∧ s167 98 13 = tq103 98 13 ∧ s167 98 14 = tq103 98 14 ∧ s167 98 5 = ((σ2 98 5) + 1) ∧ s167 98 6 = σ2 98 6 ∧ s167 98 7 = 1 ∧ s167 98 8 = σ2 98 8 ∧ s167 98 9 = σ2 98 9 ∧ s167 101 18 = σ2 101 18 ∧ s167 101 25 = σ2 101 25 ∧ s167 101 43 = σ2 101 43 ∧ s167 = h_up s164 98 5 ((σ2 98 5) + 1)) => ?_))
            refine h_goto (pc' := 178) rfl rfl ?_
            refine h_vret rfl rfl (d_retn hlv84 ?_)
            refine d_toL (g_inj ns) hlw102 hRq103 (fun lvw168 memw168 hlw168 hRw168 => ?_)
            show h_T g_P (g_Y ns) 59 41 [(0, .ref 63), (1, .int x1)] [.int rq103x] sq103 _
            refine h_goto (pc' := 46) rfl rfl ?_
            refine h_istore_n (pc' := 47) (M := [(2, .int rq103x), (0, .ref 63), (1, .int x1)]) rfl rfl rfl rfl ?_
            refine h_aload_n (pc' := 48) rfl rfl rfl ?_
            refine h_getI (pc' := 51) (v := sq103 63 2) rfl rfl rfl rfl rfl rfl (fun z169 hz169 => ?_)
            have tz169 := tf_63_2 Isq103
            refine h_zne (tg := 63) (pc' := 54) rfl rfl rfl hz169 (fun c170 => absurd c170 (by omega)) (fun c170 => ?_)
            clear hz169
            refine h_aload_n (pc' := 55) rfl rfl rfl ?_
            refine h_getR (pc' := 58) rfl rfl rfl rfl rfl ?_
            refine h_iload_n (pc' := 59) rfl rfl rfl ?_
            refine h_iload_n (pc' := 60) rfl rfl rfl ?_
            refine h_call (sp := false) (pc' := 63) (M := [(0, .ref 66), (1, .int x1), (2, .int rq103x)]) rfl rfl rfl rfl rfl rfl rfl rfl ?_
            refine h_aload_n (pc' := 1) rfl rfl rfl ?_
            refine h_getI (pc' := 4) (v := σ1 66 8) rfl rfl rfl rfl rfl esq103_7 (fun z171 hz171 => ?_)
            refine h_bipush (pc' := 6) (x := (Int32.ofInt 6)) rfl rfl cb_6 ?_
            refine h_cge (tg := 39) (pc' := 9) rfl rfl rfl hz171 ci_6 (fun c172 => absurd c172 (by omega)) (fun c172 => ?_)
            clear hz171
            refine h_aload_n (pc' := 10) rfl rfl rfl ?_
            refine h_getR (pc' := 13) rfl rfl rfl rfl rfl ?_
            refine h_aload_n (pc' := 14) rfl rfl rfl ?_
            refine h_getI (pc' := 17) (v := σ1 66 8) rfl rfl rfl rfl rfl esq103_7 (fun z173 hz173 => ?_)
            refine h_iload_n (pc' := 18) rfl rfl rfl ?_
            refine h_iast (pc' := 19) rfl rfl rfl rfl hz173 (by omega) (by omega) hx1 (h_fgt (E := fun s => s 64 2 = sq103 64 2 ∧ s 64 4 = sq103 64 4 ∧ s 64 3 = sq103 64 3 ∧ s 64 5 = sq103 64 5 ∧ s 63 2 = sq103 63 2 ∧ s 63 3 = sq103 63 3 ∧ s 64 1 = σ1 64 1 ∧ s 66 8 = σ1 66 8 ∧ s 66 9 = σ1 66 9 ∧ s 66 10 = σ1 66 10 ∧ s 69 2 = σ1 69 2 ∧ s 72 2 = σ1 72 2 ∧ s 63 5 = σ1 63 5 ∧ s = h_up sq103 67 (σ1 66 8) a1) _ (in_67 Isq103 (by omega)) (Fsq103.up rfl) ⟨rfl, rfl, rfl, rfl, rfl, rfl, esq103_6, esq103_7, esq103_8, esq103_9, esq103_10, esq103_11, esq103_12, rfl⟩ (fun s174 Is174 Fs174 (es174 : s174 64 2 = sq103 64 2 ∧ s174 64 4 = sq103 64 4 ∧ s174 64 3 = sq103 64 3 ∧ s174 64 5 = sq103 64 5 ∧ s174 63 2 = sq103 63 2 ∧ s174 63 3 = sq103 63 3 ∧ s174 64 1 = σ1 64 1 ∧ s174 66 8 = σ1 66 8 ∧ s174 66 9 = σ1 66 9 ∧ s174 66 10 = σ1 66 10 ∧ s174 69 2 = σ1 69 2 ∧ s174 72 2 = σ1 72 2 ∧ s174 63 5 = σ1 63 5 ∧ s174 = h_up sq103 67 (σ1 66 8) a1) => ?_))
            clear hz173
            refine h_aload_n (pc' := 20) rfl rfl rfl ?_
            refine h_getR (pc' := 23) rfl rfl rfl rfl rfl ?_
            refine h_aload_n (pc' := 24) rfl rfl rfl ?_
            refine h_getI (pc' := 27) (v := σ1 66 8) rfl rfl rfl rfl rfl es174.2.2.2.2.2.2.2.1 (fun z175 hz175 => ?_)
            refine h_iload_n (pc' := 28) rfl rfl rfl ?_
            refine h_iast (pc' := 29) rfl rfl rfl rfl hz175 (by omega) (by omega) hq103x (h_fgt (E := fun s => s 64 2 = sq103 64 2 ∧ s 64 4 = sq103 64 4 ∧ s 64 3 = sq103 64 3 ∧ s 64 5 = sq103 64 5 ∧ s 63 2 = sq103 63 2 ∧ s 63 3 = sq103 63 3 ∧ s 64 1 = σ1 64 1 ∧ s 66 8 = σ1 66 8 ∧ s 66 9 = σ1 66 9 ∧ s 66 10 = σ1 66 10 ∧ s 69 2 = σ1 69 2 ∧ s 72 2 = σ1 72 2 ∧ s 63 5 = σ1 63 5 ∧ s = h_up s174 68 (σ1 66 8) bq103x) _ (in_68 Is174 (by omega)) (Fs174.up rfl) ⟨es174.1, es174.2.1, es174.2.2.1, es174.2.2.2.1, es174.2.2.2.2.1, es174.2.2.2.2.2.1, es174.2.2.2.2.2.2.1, es174.2.2.2.2.2.2.2.1, es174.2.2.2.2.2.2.2.2.1, es174.2.2.2.2.2.2.2.2.2.1, es174.2.2.2.2.2.2.2.2.2.2.1, es174.2.2.2.2.2.2.2.2.2.2.2.1, es174.2.2.2.2.2.2.2.2.2.2.2.2.1, rfl⟩ (fun s176 Is176 Fs176 (es176 : s176 64 2 = sq103 64 2 ∧ s176 64 4 = sq103 64 4 ∧ s176 64 3 = sq103 64 3 ∧ s176 64 5 = sq103 64 5 ∧ s176 63 2 = sq103 63 2 ∧ s176 63 3 = sq103 63 3 ∧ s176 64 1 = σ1 64 1 ∧ s176 66 8 = σ1 66 8 ∧ s176 66 9 = σ1 66 9 ∧ s176 66 10 = σ1 66 10 ∧ s176 69 2 = σ1 69 2 ∧ s176 72 2 = σ1 72 2 ∧ s176 63 5 = σ1 63 5 ∧ s176 = h_up s174 68 (σ1 66 8) bq103x) => ?_))
            clear hz175
            refine h_aload_n (pc' := 30) rfl rfl rfl ?_
            refine h_dup (pc' := 31) rfl rfl rfl ?_
            refine h_getI (pc' := 34) (v := σ1 66 8) rfl rfl rfl rfl rfl es176.2.2.2.2.2.2.2.1 (fun z177 hz177 => ?_)
            refine h_iconst (pc' := 35) (x := (Int32.ofInt 1)) rfl rfl rfl ?_
            refine h_iadd (pc' := 36) rfl rfl hz177 ci_1 rfl (by omega) (by omega) (fun z178 hz178 => ?_)
            clear hz177
            refine h_put (pc' := 39) rfl rfl rfl rfl rfl rfl hz178 rfl (h_fgt (E := fun s => s 64 2 = sq103 64 2 ∧ s 64 4 = sq103 64 4 ∧ s 64 3 = sq103 64 3 ∧ s 64 5 = sq103 64 5 ∧ s 63 2 = sq103 63 2 ∧ s 63 3 = sq103 63 3 ∧ s 64 1 = σ1 64 1 ∧ s 66 8 = ((σ1 66 8) + 1) ∧ s 66 9 = σ1 66 9 ∧ s 66 10 = σ1 66 10 ∧ s 69 2 = σ1 69 2 ∧ s 72 2 = σ1 72 2 ∧ s 63 5 = σ1 63 5 ∧ s = h_up s176 66 8 ((σ1 66 8) + 1)) _ (if_66_8 Is176 (by omega)) (Fs176.up rfl) ⟨es176.1, es176.2.1, es176.2.2.1, es176.2.2.2.1, es176.2.2.2.2.1, es176.2.2.2.2.2.1, es176.2.2.2.2.2.2.1, rfl, es176.2.2.2.2.2.2.2.2.1, es176.2.2.2.2.2.2.2.2.2.1, es176.2.2.2.2.2.2.2.2.2.2.1, es176.2.2.2.2.2.2.2.2.2.2.2.1, es176.2.2.2.2.2.2.2.2.2.2.2.2.1, rfl⟩ (fun s179 Is179 Fs179 (es179 : s179 64 2 = sq103 64 2 ∧ s179 64 4 = sq103 64 4 ∧ s179 64 3 = sq103 64 3 ∧ s179 64 5 = sq103 64 5 ∧ s179 63 2 = sq103 63 2 ∧ s179 63 3 = sq103 63 3 ∧ s179 64 1 = σ1 64 1 ∧ s179 66 8 = ((σ1 66 8) + 1) ∧ s179 66 9 = σ1 66 9 ∧ s179 66 10 = σ1 66 10 ∧ s179 69 2 = σ1 69 2 ∧ s179 72 2 = σ1 72 2 ∧ s179 63 5 = σ1 63 5 ∧ s179 = h_up s176 66 8 ((σ1 66 8) + 1)) => ?_))
            refine h_vret rfl rfl (h_Kn ?_)
            refine h_vret rfl rfl (d_retn hlv1 ?_)
            clear hq103x
            exact h_wk [(0, .ref 63)] ⟨rfl, trivial⟩ (kx0 _ _ Is179 Is167 Fs179 Fs167 (by omega) (by omega) (by omega) (by omega) (by omega) (fun _ => d_mk (es179.2.2.2.2.2.2.2.1) (es179.2.2.2.2.2.2.2.2.1) (es179.2.2.2.2.2.2.2.2.2.1) (es179.2.2.2.2.2.2.2.2.2.2.1) (es179.2.2.2.2.2.2.2.2.2.2.2.1) (es179.2.2.2.2.2.2.2.2.2.2.2.2.1) (fun j => (h_upo es179.2.2.2.2.2.2.2.2.2.2.2.2.2 rfl j).trans ((h_upo es176.2.2.2.2.2.2.2.2.2.2.2.2.2 rfl j).trans ((h_upi es174.2.2.2.2.2.2.2.2.2.2.2.2.2 j).trans (congrArg (fun z => if j = (σ1 66 8) then a1 else z) ((Gsq103 67 j rfl).trans ((Gsq17 67 j rfl))))))) (fun j => (h_upo es179.2.2.2.2.2.2.2.2.2.2.2.2.2 rfl j).trans ((h_upi es176.2.2.2.2.2.2.2.2.2.2.2.2.2 j).trans (congrArg (fun z => if j = (σ1 66 8) then bq103x else z) ((h_upo es174.2.2.2.2.2.2.2.2.2.2.2.2.2 rfl j).trans ((Gsq103 68 j rfl).trans ((Gsq17 68 j rfl))))))) (fun j => (h_upo es179.2.2.2.2.2.2.2.2.2.2.2.2.2 rfl j).trans ((h_upo es176.2.2.2.2.2.2.2.2.2.2.2.2.2 rfl j).trans ((h_upo es174.2.2.2.2.2.2.2.2.2.2.2.2.2 rfl j).trans ((Gsq103 70 j rfl).trans ((Gsq17 70 j rfl)))))) (fun j => (h_upo es179.2.2.2.2.2.2.2.2.2.2.2.2.2 rfl j).trans ((h_upo es176.2.2.2.2.2.2.2.2.2.2.2.2.2 rfl j).trans ((h_upo es174.2.2.2.2.2.2.2.2.2.2.2.2.2 rfl j).trans ((Gsq103 71 j rfl).trans ((Gsq17 71 j rfl)))))) (fun j => (h_upo es179.2.2.2.2.2.2.2.2.2.2.2.2.2 rfl j).trans ((h_upo es176.2.2.2.2.2.2.2.2.2.2.2.2.2 rfl j).trans ((h_upo es174.2.2.2.2.2.2.2.2.2.2.2.2.2 rfl j).trans ((Gsq103 73 j rfl).trans ((Gsq17 73 j rfl)))))) (fun j => (h_upo es179.2.2.2.2.2.2.2.2.2.2.2.2.2 rfl j).trans ((h_upo es176.2.2.2.2.2.2.2.2.2.2.2.2.2 rfl j).trans ((h_upo es174.2.2.2.2.2.2.2.2.2.2.2.2.2 rfl j).trans ((Gsq103 74 j rfl).trans ((Gsq17 74 j rfl)))))) (fun j => (h_upo es179.2.2.2.2.2.2.2.2.2.2.2.2.2 rfl j).trans ((h_upo es176.2.2.2.2.2.2.2.2.2.2.2.2.2 rfl j).trans ((h_upo es174.2.2.2.2.2.2.2.2.2.2.2.2.2 rfl j).trans ((Gsq103 75 j rfl).trans ((Gsq17 75 j rfl)))))) (fun j => (h_upo es179.2.2.2.2.2.2.2.2.2.2.2.2.2 rfl j).trans ((h_upo es176.2.2.2.2.2.2.2.2.2.2.2.2.2 rfl j).trans ((h_upo es174.2.2.2.2.2.2.2.2.2.2.2.2.2 rfl j).trans ((Gsq103 76 j rfl).trans ((Gsq17 76 j rfl)))))) (fun j => (h_upo es179.2.2.2.2.2.2.2.2.2.2.2.2.2 rfl j).trans ((h_upo es176.2.2.2.2.2.2.2.2.2.2.2.2.2 rfl j).trans ((h_upo es174.2.2.2.2.2.2.2.2.2.2.2.2.2 rfl j).trans ((Gsq103 77 j rfl).trans ((Gsq17 77 j rfl)))))) (fun j => (h_upo es179.2.2.2.2.2.2.2.2.2.2.2.2.2 rfl j).trans ((h_upo es176.2.2.2.2.2.2.2.2.2.2.2.2.2 rfl j).trans ((h_upo es174.2.2.2.2.2.2.2.2.2.2.2.2.2 rfl j).trans ((Gsq103 78 j rfl).trans ((Gsq17 78 j rfl)))))) (es167.2.2.2.2.2.2.1) (es167.2.2.2.2.2.2.2.1) (es167.2.2.2.2.2.2.2.2.1) (es167.2.2.2.2.2.2.2.2.2.1) (es167.2.2.2.2.2.2.2.2.2.2.1) (fun j => (h_upo es167.2.2.2.2.2.2.2.2.2.2.2.2.2.2 rfl j).trans ((h_upi es164.2.2.2.2.2.2.2.2.2.2.2.2.2.2 j).trans (congrArg (fun z => if j = (6 + (σ2 98 5)) then (bq103m + 1) else z) ((Gtq103 101 j rfl).trans ((h_upi es87.2.2.2.2.2.2.2.2.2.2.2.2.2.2 j).trans (congrArg (fun z => if j = (σ2 98 5) then c1 else z) ((Gtq17 101 j rfl).trans ((h_upo es16.2.2.2.2.2.2.2.2.2.2.2.2.2.2 rfl j))))))))) (r_one1 pr12 (by omega) (by omega) (by omega) (by omega) (by omega) (by omega) (by omega) (by omega) (by omega) (by omega))) (Or.inr (Or.inr (Or.inr (Or.inr ⟨by omega, by omega, by omega, by omega, by omega, by omega⟩)))) _ _ (h_al_ok ⟨rfl, trivial⟩ hlw168) hRw168)
        · show h_T g_P (g_Y ns) 154 132 [(0, .ref 98), (1, .int y1)] [] tq17 _
          refine h_aload_n (pc' := 133) rfl rfl rfl ?_
          refine h_getI (pc' := 136) (v := tq17 98 13) rfl rfl rfl rfl rfl rfl (fun z180 hz180 => ?_)
          have tz180 := tf_98_13 Itq17
          refine h_zle (tg := 140) (pc' := 139) rfl rfl rfl hz180 (fun c181 => ?_) (fun c181 => absurd c181 (by omega))
          clear hz180
          refine h_aload_n (pc' := 141) rfl rfl rfl ?_
          refine h_iload_n (pc' := 142) rfl rfl rfl ?_
          refine d_call (g_inj ns) (pc' := 145) (m := 153) (M := [(0, .ref 98), (1, .int y1)]) (rest := []) ⟨false, _, _, _, _, _, _, rfl, rfl, rfl, rfl, rfl, rfl, rfl⟩ (fun lv182 hlv182 => ?_)
          refine h_iload_n (pc' := 1) rfl rfl rfl ?_
          refine h_iconst (pc' := 2) (x := (Int32.ofInt 3)) rfl rfl rfl ?_
          refine h_cgt (tg := 61) (pc' := 5) rfl rfl rfl hy1 ci_3 (fun c183 => absurd c183 (by omega)) (fun c183 => ?_)
          refine h_aload_n (pc' := 6) rfl rfl rfl ?_
          refine h_getR (pc' := 9) rfl rfl rfl rfl rfl ?_
          refine h_aload_n (pc' := 10) rfl rfl rfl ?_
          refine h_getI (pc' := 13) (v := σ2 98 5) rfl rfl rfl rfl rfl etq17_6 (fun z184 hz184 => ?_)
          refine h_iload_n (pc' := 14) rfl rfl rfl ?_
          refine h_iast (pc' := 15) rfl rfl rfl rfl hz184 (by omega) (by omega) hy1 (h_fgt (E := fun s => s 98 15 = tq17 98 15 ∧ s 98 16 = tq17 98 16 ∧ s 98 17 = tq17 98 17 ∧ s 98 18 = tq17 98 18 ∧ s 98 13 = tq17 98 13 ∧ s 98 14 = tq17 98 14 ∧ s 98 5 = σ2 98 5 ∧ s 98 6 = σ2 98 6 ∧ s 98 7 = 1 ∧ s 98 8 = σ2 98 8 ∧ s 98 9 = σ2 98 9 ∧ s 101 18 = σ2 101 18 ∧ s 101 25 = σ2 101 25 ∧ s 101 43 = σ2 101 43 ∧ s = h_up tq17 101 (σ2 98 5) c1) _ (ip_101_0 Itq17 (by omega) (by omega)) (Ftq17.up rfl) ⟨rfl, rfl, rfl, rfl, rfl, rfl, etq17_6, etq17_7, etq17_8, etq17_9, etq17_10, h_up_n2 (by omega) etq17_11, h_up_n2 (by omega) etq17_12, h_up_n2 (by omega) etq17_13, rfl⟩ (fun s185 Is185 Fs185 (es185 : s185 98 15 = tq17 98 15 ∧ s185 98 16 = tq17 98 16 ∧ s185 98 17 = tq17 98 17 ∧ s185 98 18 = tq17 98 18 ∧ s185 98 13 = tq17 98 13 ∧ s185 98 14 = tq17 98 14 ∧ s185 98 5 = σ2 98 5 ∧ s185 98 6 = σ2 98 6 ∧ s185 98 7 = 1 ∧ s185 98 8 = σ2 98 8 ∧ s185 98 9 = σ2 98 9 ∧ s185 101 18 = σ2 101 18 ∧ s185 101 25 = σ2 101 25 ∧ s185 101 43 = σ2 101 43 ∧ s185 = h_up tq17 101 (σ2 98 5) c1) => ?_))
          clear hz184
          refine h_aload_n (pc' := 16) rfl rfl rfl ?_
          refine h_getI (pc' := 19) (v := tq17 98 17) rfl rfl rfl rfl rfl es185.2.2.1 (fun z186 hz186 => ?_)
          have tz186 := tf_98_17 Itq17
          refine h_iconst (pc' := 20) (x := (Int32.ofInt 2)) rfl rfl rfl ?_
          refine h_cne (tg := 48) (pc' := 23) rfl rfl rfl hz186 ci_2 (fun c187 => ?_) (fun c187 => absurd c187 (by omega))
          clear hz186
          refine h_aload_n (pc' := 49) rfl rfl rfl ?_
          refine h_dup (pc' := 50) rfl rfl rfl ?_
          refine h_getI (pc' := 53) (v := σ2 98 5) rfl rfl rfl rfl rfl es185.2.2.2.2.2.2.1 (fun z188 hz188 => ?_)
          refine h_iconst (pc' := 54) (x := (Int32.ofInt 1)) rfl rfl rfl ?_
          refine h_iadd (pc' := 55) rfl rfl hz188 ci_1 rfl (by omega) (by omega) (fun z189 hz189 => ?_)
          clear hz188
          refine h_put (pc' := 58) rfl rfl rfl rfl rfl rfl hz189 rfl (h_fgt (E := fun s => s 98 15 = tq17 98 15 ∧ s 98 16 = tq17 98 16 ∧ s 98 17 = tq17 98 17 ∧ s 98 18 = tq17 98 18 ∧ s 98 13 = tq17 98 13 ∧ s 98 14 = tq17 98 14 ∧ s 98 5 = ((σ2 98 5) + 1) ∧ s 98 6 = σ2 98 6 ∧ s 98 7 = 1 ∧ s 98 8 = σ2 98 8 ∧ s 98 9 = σ2 98 9 ∧ s 101 18 = σ2 101 18 ∧ s 101 25 = σ2 101 25 ∧ s 101 43 = σ2 101 43 ∧ s = h_up s185 98 5 ((σ2 98 5) + 1)) _ (if_98_5 Is185 (by omega)) (Fs185.up rfl) ⟨es185.1, es185.2.1, es185.2.2.1, es185.2.2.2.1, es185.2.2.2.2.1, es185.2.2.2.2.2.1, rfl, es185.2.2.2.2.2.2.2.1, es185.2.2.2.2.2.2.2.2.1, es185.2.2.2.2.2.2.2.2.2.1, es185.2.2.2.2.2.2.2.2.2.2.1, es185.2.2.2.2.2.2.2.2.2.2.2.1, es185.2.2.2.2.2.2.2.2.2.2.2.2.1, es185.2.2.2.2.2.2.2.2.2.2.2.2.2.1, rfl⟩ (fun s190 Is190 Fs190 (es190 : s190 98 15 = tq17 98 15 ∧ s190 98 16 = tq17 98 16 ∧ s190 98 17 = tq17 98 17 ∧ s190 98 18 = tq17 98 18 ∧ s190 98 13 = tq17 98 13 ∧ s190 98 14 = tq17 98 14 ∧ s190 98 5 = ((σ2 98 5) + 1) ∧ s190 98 6 = σ2 98 6 ∧ s190 98 7 = 1 ∧ s190 98 8 = σ2 98 8 ∧ s190 98 9 = σ2 98 9 ∧ s190 101 18 = σ2 101 18 ∧ s190 101 25 = σ2 101 25 ∧ s190 101 43 = σ2 101 43 ∧ s190 = h_up s185 98 5 ((σ2 98 5) + 1)) => ?_))
          refine h_goto (pc' := 178) rfl rfl ?_
          refine h_vret rfl rfl (d_retn hlv182 ?_)
          refine d_toL (g_inj ns) hlw6 hRq17 (fun lvw191 memw191 hlw191 hRw191 => ?_)
          show h_T g_P (g_Y ns) 57 20 [(0, .ref 63), (1, .int (Int32.ofInt 0))] [] sq17 _
          refine h_vret rfl rfl (d_retn hlv4 ?_)
          refine h_aload_n (pc' := 22) rfl rfl rfl ?_
          refine h_call (sp := false) (pc' := 25) (M := [(0, .ref 63)]) rfl rfl rfl rfl rfl rfl rfl rfl ?_
          refine h_aload_n (pc' := 1) rfl rfl rfl ?_
          refine h_getI (pc' := 4) (v := sq17 63 2) rfl rfl rfl rfl rfl rfl (fun z192 hz192 => ?_)
          have tz192 := tf_63_2 Isq17
          refine h_zne (tg := 22) (pc' := 7) rfl rfl rfl hz192 (fun c193 => absurd c193 (by omega)) (fun c193 => ?_)
          clear hz192
          refine h_aload_n (pc' := 8) rfl rfl rfl ?_
          refine h_getR (pc' := 11) rfl rfl rfl rfl rfl ?_
          refine h_getI (pc' := 14) (v := sq17 64 3) rfl rfl rfl rfl rfl rfl (fun z194 hz194 => ?_)
          have tz194 := tf_64_3 Isq17
          refine h_iconst (pc' := 15) (x := (Int32.ofInt 2)) rfl rfl rfl ?_
          refine h_cne (tg := 22) (pc' := 18) rfl rfl rfl hz194 ci_2 (fun c195 => ?_) (fun c195 => absurd c195 (by omega))
          clear hz194
          refine h_iconst (pc' := 23) (x := (Int32.ofInt 0)) rfl rfl rfl ?_
          refine h_zret rfl rfl ci_0 (by omega) (h_Kv ?_)
          refine h_zeq (tg := 44) (pc' := 28) rfl rfl rfl ci_0 (fun c196 => ?_) (fun c196 => absurd c196 (by omega))
          refine h_bipush (pc' := 46) (x := (Int32.ofInt (-4))) rfl rfl cb_m4 ?_
          refine h_istore_n (pc' := 47) (M := [(2, .int (Int32.ofInt (-4))), (0, .ref 63), (1, .int x1)]) rfl rfl rfl rfl ?_
          refine h_aload_n (pc' := 48) rfl rfl rfl ?_
          refine h_getI (pc' := 51) (v := sq17 63 2) rfl rfl rfl rfl rfl rfl (fun z197 hz197 => ?_)
          refine h_zne (tg := 63) (pc' := 54) rfl rfl rfl hz197 (fun c198 => absurd c198 (by omega)) (fun c198 => ?_)
          clear hz197
          refine h_aload_n (pc' := 55) rfl rfl rfl ?_
          refine h_getR (pc' := 58) rfl rfl rfl rfl rfl ?_
          refine h_iload_n (pc' := 59) rfl rfl rfl ?_
          refine h_iload_n (pc' := 60) rfl rfl rfl ?_
          refine h_call (sp := false) (pc' := 63) (M := [(0, .ref 66), (1, .int x1), (2, .int (Int32.ofInt (-4)))]) rfl rfl rfl rfl rfl rfl rfl rfl ?_
          refine h_aload_n (pc' := 1) rfl rfl rfl ?_
          refine h_getI (pc' := 4) (v := σ1 66 8) rfl rfl rfl rfl rfl esq17_7 (fun z199 hz199 => ?_)
          refine h_bipush (pc' := 6) (x := (Int32.ofInt 6)) rfl rfl cb_6 ?_
          refine h_cge (tg := 39) (pc' := 9) rfl rfl rfl hz199 ci_6 (fun c200 => absurd c200 (by omega)) (fun c200 => ?_)
          clear hz199
          refine h_aload_n (pc' := 10) rfl rfl rfl ?_
          refine h_getR (pc' := 13) rfl rfl rfl rfl rfl ?_
          refine h_aload_n (pc' := 14) rfl rfl rfl ?_
          refine h_getI (pc' := 17) (v := σ1 66 8) rfl rfl rfl rfl rfl esq17_7 (fun z201 hz201 => ?_)
          refine h_iload_n (pc' := 18) rfl rfl rfl ?_
          refine h_iast (pc' := 19) rfl rfl rfl rfl hz201 (by omega) (by omega) hx1 (h_fgt (E := fun s => s 64 2 = sq17 64 2 ∧ s 64 4 = sq17 64 4 ∧ s 64 3 = sq17 64 3 ∧ s 64 5 = sq17 64 5 ∧ s 63 2 = sq17 63 2 ∧ s 63 3 = sq17 63 3 ∧ s 64 1 = σ1 64 1 ∧ s 66 8 = σ1 66 8 ∧ s 66 9 = σ1 66 9 ∧ s 66 10 = σ1 66 10 ∧ s 69 2 = σ1 69 2 ∧ s 72 2 = σ1 72 2 ∧ s 63 5 = σ1 63 5 ∧ s = h_up sq17 67 (σ1 66 8) a1) _ (in_67 Isq17 (by omega)) (Fsq17.up rfl) ⟨rfl, rfl, rfl, rfl, rfl, rfl, esq17_6, esq17_7, esq17_8, esq17_9, esq17_10, esq17_11, esq17_12, rfl⟩ (fun s202 Is202 Fs202 (es202 : s202 64 2 = sq17 64 2 ∧ s202 64 4 = sq17 64 4 ∧ s202 64 3 = sq17 64 3 ∧ s202 64 5 = sq17 64 5 ∧ s202 63 2 = sq17 63 2 ∧ s202 63 3 = sq17 63 3 ∧ s202 64 1 = σ1 64 1 ∧ s202 66 8 = σ1 66 8 ∧ s202 66 9 = σ1 66 9 ∧ s202 66 10 = σ1 66 10 ∧ s202 69 2 = σ1 69 2 ∧ s202 72 2 = σ1 72 2 ∧ s202 63 5 = σ1 63 5 ∧ s202 = h_up sq17 67 (σ1 66 8) a1) => ?_))
          clear hz201
          refine h_aload_n (pc' := 20) rfl rfl rfl ?_
          refine h_getR (pc' := 23) rfl rfl rfl rfl rfl ?_
          refine h_aload_n (pc' := 24) rfl rfl rfl ?_
          refine h_getI (pc' := 27) (v := σ1 66 8) rfl rfl rfl rfl rfl es202.2.2.2.2.2.2.2.1 (fun z203 hz203 => ?_)
          refine h_iload_n (pc' := 28) rfl rfl rfl ?_
          refine h_iast (pc' := 29) rfl rfl rfl rfl hz203 (by omega) (by omega) ci_m4 (h_fgt (E := fun s => s 64 2 = sq17 64 2 ∧ s 64 4 = sq17 64 4 ∧ s 64 3 = sq17 64 3 ∧ s 64 5 = sq17 64 5 ∧ s 63 2 = sq17 63 2 ∧ s 63 3 = sq17 63 3 ∧ s 64 1 = σ1 64 1 ∧ s 66 8 = σ1 66 8 ∧ s 66 9 = σ1 66 9 ∧ s 66 10 = σ1 66 10 ∧ s 69 2 = σ1 69 2 ∧ s 72 2 = σ1 72 2 ∧ s 63 5 = σ1 63 5 ∧ s = h_up s202 68 (σ1 66 8) (-4)) _ (in_68 Is202 (by omega)) (Fs202.up rfl) ⟨es202.1, es202.2.1, es202.2.2.1, es202.2.2.2.1, es202.2.2.2.2.1, es202.2.2.2.2.2.1, es202.2.2.2.2.2.2.1, es202.2.2.2.2.2.2.2.1, es202.2.2.2.2.2.2.2.2.1, es202.2.2.2.2.2.2.2.2.2.1, es202.2.2.2.2.2.2.2.2.2.2.1, es202.2.2.2.2.2.2.2.2.2.2.2.1, es202.2.2.2.2.2.2.2.2.2.2.2.2.1, rfl⟩ (fun s204 Is204 Fs204 (es204 : s204 64 2 = sq17 64 2 ∧ s204 64 4 = sq17 64 4 ∧ s204 64 3 = sq17 64 3 ∧ s204 64 5 = sq17 64 5 ∧ s204 63 2 = sq17 63 2 ∧ s204 63 3 = sq17 63 3 ∧ s204 64 1 = σ1 64 1 ∧ s204 66 8 = σ1 66 8 ∧ s204 66 9 = σ1 66 9 ∧ s204 66 10 = σ1 66 10 ∧ s204 69 2 = σ1 69 2 ∧ s204 72 2 = σ1 72 2 ∧ s204 63 5 = σ1 63 5 ∧ s204 = h_up s202 68 (σ1 66 8) (-4)) => ?_))
          clear hz203
          refine h_aload_n (pc' := 30) rfl rfl rfl ?_
          refine h_dup (pc' := 31) rfl rfl rfl ?_
          refine h_getI (pc' := 34) (v := σ1 66 8) rfl rfl rfl rfl rfl es204.2.2.2.2.2.2.2.1 (fun z205 hz205 => ?_)
          refine h_iconst (pc' := 35) (x := (Int32.ofInt 1)) rfl rfl rfl ?_
          refine h_iadd (pc' := 36) rfl rfl hz205 ci_1 rfl (by omega) (by omega) (fun z206 hz206 => ?_)
          clear hz205
          refine h_put (pc' := 39) rfl rfl rfl rfl rfl rfl hz206 rfl (h_fgt (E := fun s => s 64 2 = sq17 64 2 ∧ s 64 4 = sq17 64 4 ∧ s 64 3 = sq17 64 3 ∧ s 64 5 = sq17 64 5 ∧ s 63 2 = sq17 63 2 ∧ s 63 3 = sq17 63 3 ∧ s 64 1 = σ1 64 1 ∧ s 66 8 = ((σ1 66 8) + 1) ∧ s 66 9 = σ1 66 9 ∧ s 66 10 = σ1 66 10 ∧ s 69 2 = σ1 69 2 ∧ s 72 2 = σ1 72 2 ∧ s 63 5 = σ1 63 5 ∧ s = h_up s204 66 8 ((σ1 66 8) + 1)) _ (if_66_8 Is204 (by omega)) (Fs204.up rfl) ⟨es204.1, es204.2.1, es204.2.2.1, es204.2.2.2.1, es204.2.2.2.2.1, es204.2.2.2.2.2.1, es204.2.2.2.2.2.2.1, rfl, es204.2.2.2.2.2.2.2.2.1, es204.2.2.2.2.2.2.2.2.2.1, es204.2.2.2.2.2.2.2.2.2.2.1, es204.2.2.2.2.2.2.2.2.2.2.2.1, es204.2.2.2.2.2.2.2.2.2.2.2.2.1, rfl⟩ (fun s207 Is207 Fs207 (es207 : s207 64 2 = sq17 64 2 ∧ s207 64 4 = sq17 64 4 ∧ s207 64 3 = sq17 64 3 ∧ s207 64 5 = sq17 64 5 ∧ s207 63 2 = sq17 63 2 ∧ s207 63 3 = sq17 63 3 ∧ s207 64 1 = σ1 64 1 ∧ s207 66 8 = ((σ1 66 8) + 1) ∧ s207 66 9 = σ1 66 9 ∧ s207 66 10 = σ1 66 10 ∧ s207 69 2 = σ1 69 2 ∧ s207 72 2 = σ1 72 2 ∧ s207 63 5 = σ1 63 5 ∧ s207 = h_up s204 66 8 ((σ1 66 8) + 1)) => ?_))
          refine h_vret rfl rfl (h_Kn ?_)
          refine h_vret rfl rfl (d_retn hlv1 ?_)
          exact h_wk [(0, .ref 63)] ⟨rfl, trivial⟩ (kx0 _ _ Is207 Is190 Fs207 Fs190 (by omega) (by omega) (by omega) (by omega) (by omega) (fun _ => d_mk (es207.2.2.2.2.2.2.2.1) (es207.2.2.2.2.2.2.2.2.1) (es207.2.2.2.2.2.2.2.2.2.1) (es207.2.2.2.2.2.2.2.2.2.2.1) (es207.2.2.2.2.2.2.2.2.2.2.2.1) (es207.2.2.2.2.2.2.2.2.2.2.2.2.1) (fun j => (h_upo es207.2.2.2.2.2.2.2.2.2.2.2.2.2 rfl j).trans ((h_upo es204.2.2.2.2.2.2.2.2.2.2.2.2.2 rfl j).trans ((h_upi es202.2.2.2.2.2.2.2.2.2.2.2.2.2 j).trans (congrArg (fun z => if j = (σ1 66 8) then a1 else z) ((Gsq17 67 j rfl)))))) (fun j => (h_upo es207.2.2.2.2.2.2.2.2.2.2.2.2.2 rfl j).trans ((h_upi es204.2.2.2.2.2.2.2.2.2.2.2.2.2 j).trans (congrArg (fun z => if j = (σ1 66 8) then (-4) else z) ((h_upo es202.2.2.2.2.2.2.2.2.2.2.2.2.2 rfl j).trans ((Gsq17 68 j rfl)))))) (fun j => (h_upo es207.2.2.2.2.2.2.2.2.2.2.2.2.2 rfl j).trans ((h_upo es204.2.2.2.2.2.2.2.2.2.2.2.2.2 rfl j).trans ((h_upo es202.2.2.2.2.2.2.2.2.2.2.2.2.2 rfl j).trans ((Gsq17 70 j rfl))))) (fun j => (h_upo es207.2.2.2.2.2.2.2.2.2.2.2.2.2 rfl j).trans ((h_upo es204.2.2.2.2.2.2.2.2.2.2.2.2.2 rfl j).trans ((h_upo es202.2.2.2.2.2.2.2.2.2.2.2.2.2 rfl j).trans ((Gsq17 71 j rfl))))) (fun j => (h_upo es207.2.2.2.2.2.2.2.2.2.2.2.2.2 rfl j).trans ((h_upo es204.2.2.2.2.2.2.2.2.2.2.2.2.2 rfl j).trans ((h_upo es202.2.2.2.2.2.2.2.2.2.2.2.2.2 rfl j).trans ((Gsq17 73 j rfl))))) (fun j => (h_upo es207.2.2.2.2.2.2.2.2.2.2.2.2.2 rfl j).trans ((h_upo es204.2.2.2.2.2.2.2.2.2.2.2.2.2 rfl j).trans ((h_upo es202.2.2.2.2.2.2.2.2.2.2.2.2.2 rfl j).trans ((Gsq17 74 j rfl))))) (fun j => (h_upo es207.2.2.2.2.2.2.2.2.2.2.2.2.2 rfl j).trans ((h_upo es204.2.2.2.2.2.2.2.2.2.2.2.2.2 rfl j).trans ((h_upo es202.2.2.2.2.2.2.2.2.2.2.2.2.2 rfl j).trans ((Gsq17 75 j rfl))))) (fun j => (h_upo es207.2.2.2.2.2.2.2.2.2.2.2.2.2 rfl j).trans ((h_upo es204.2.2.2.2.2.2.2.2.2.2.2.2.2 rfl j).trans ((h_upo es202.2.2.2.2.2.2.2.2.2.2.2.2.2 rfl j).trans ((Gsq17 76 j rfl))))) (fun j => (h_upo es207.2.2.2.2.2.2.2.2.2.2.2.2.2 rfl j).trans ((h_upo es204.2.2.2.2.2.2.2.2.2.2.2.2.2 rfl j).trans ((h_upo es202.2.2.2.2.2.2.2.2.2.2.2.2.2 rfl j).trans ((Gsq17 77 j rfl))))) (fun j => (h_upo es207.2.2.2.2.2.2.2.2.2.2.2.2.2 rfl j).trans ((h_upo es204.2.2.2.2.2.2.2.2.2.2.2.2.2 rfl j).trans ((h_upo es202.2.2.2.2.2.2.2.2.2.2.2.2.2 rfl j).trans ((Gsq17 78 j rfl))))) (es190.2.2.2.2.2.2.1) (es190.2.2.2.2.2.2.2.1) (es190.2.2.2.2.2.2.2.2.1) (es190.2.2.2.2.2.2.2.2.2.1) (es190.2.2.2.2.2.2.2.2.2.2.1) (fun j => (h_upo es190.2.2.2.2.2.2.2.2.2.2.2.2.2.2 rfl j).trans ((h_upi es185.2.2.2.2.2.2.2.2.2.2.2.2.2.2 j).trans (congrArg (fun z => if j = (σ2 98 5) then c1 else z) ((Gtq17 101 j rfl).trans ((h_upo es16.2.2.2.2.2.2.2.2.2.2.2.2.2.2 rfl j)))))) (r_one0 pr12 (by omega) (by omega) (by omega) (by omega) (by omega) (by omega) (by omega))) (Or.inr (Or.inr (Or.inr (Or.inr ⟨by omega, by omega, by omega, by omega, by omega, by omega⟩)))) _ _ (h_al_ok ⟨rfl, trivial⟩ hlw191) hRw191)
      · clear hz14
        refine h_iload_n (pc' := 115) rfl rfl rfl ?_
        refine h_bipush (pc' := 117) (x := (Int32.ofInt 7)) rfl rfl cb_7 ?_
        refine h_cne (tg := 124) (pc' := 120) rfl rfl rfl hy1 ci_7 (fun c208 => ?_) (fun c208 => absurd c208 (by omega))
        refine h_iconst (pc' := 125) (x := (Int32.ofInt 0)) rfl rfl rfl ?_
        refine h_put (pc' := 128) rfl rfl rfl rfl rfl rfl ci_0 (h_fb ci_0 (by omega)) (h_fgt (E := fun s => s 98 15 = σ2 98 15 ∧ s 98 16 = σ2 98 16 ∧ s 98 17 = σ2 98 17 ∧ s 98 18 = σ2 98 18 ∧ s 98 13 = σ2 98 13 ∧ s 98 14 = σ2 98 14 ∧ s 98 5 = σ2 98 5 ∧ s 98 6 = σ2 98 6 ∧ s 98 7 = 0 ∧ s 98 8 = σ2 98 8 ∧ s 98 9 = σ2 98 9 ∧ s 101 18 = σ2 101 18 ∧ s 101 25 = σ2 101 25 ∧ s 101 43 = σ2 101 43 ∧ s = h_up σ2 98 7 0) _ (if_98_7 hI2 (by omega)) (F2.up rfl) ⟨rfl, rfl, rfl, rfl, rfl, rfl, rfl, rfl, rfl, rfl, rfl, rfl, rfl, rfl, rfl⟩ (fun s209 Is209 Fs209 (es209 : s209 98 15 = σ2 98 15 ∧ s209 98 16 = σ2 98 16 ∧ s209 98 17 = σ2 98 17 ∧ s209 98 18 = σ2 98 18 ∧ s209 98 13 = σ2 98 13 ∧ s209 98 14 = σ2 98 14 ∧ s209 98 5 = σ2 98 5 ∧ s209 98 6 = σ2 98 6 ∧ s209 98 7 = 0 ∧ s209 98 8 = σ2 98 8 ∧ s209 98 9 = σ2 98 9 ∧ s209 101 18 = σ2 101 18 ∧ s209 101 25 = σ2 101 25 ∧ s209 101 43 = σ2 101 43 ∧ s209 = h_up σ2 98 7 0) => ?_))
        refine h_aload_n (pc' := 129) rfl rfl rfl ?_
        refine d_pcall (g_inj ns) (m1 := 54) (pc1' := 20) (M1 := [(0, .ref 63)]) (rest1 := []) (m2 := 148) (pc2' := 132) (M2 := [(0, .ref 98)]) (rest2 := []) ⟨false, _, _, _, _, _, _, rfl, rfl, rfl, rfl, rfl, rfl, rfl⟩ ⟨false, _, _, _, _, _, _, rfl, rfl, rfl, rfl, rfl, rfl, rfl⟩ hRw6 ?_
        refine pp_step hI1 Is209 (hTL.fr (F1.mono rfl) (Fs209.mono rfl)) (by omega) (by omega) (by omega) (by omega) (Or.inr ⟨by omega, by omega⟩) (fun sq210 tq210 Isq210 Itq210 Gsq210 Gtq210 yq210_0 yq210_1 yq210_2 yq210_3 yq210_4 pcq210 memq210 hRq210 => ?_)
        have Fsq210 := (Gsq210.mono (B := k_px) rfl).tr F1
        have Ftq210 := (Gtq210.mono (B := k_pm) rfl).tr Fs209
        have esq210_6 : sq210 64 1 = σ1 64 1 := (Gsq210 64 1 rfl).trans rfl
        have esq210_7 : sq210 66 8 = σ1 66 8 := (Gsq210 66 8 rfl).trans rfl
        have esq210_8 : sq210 66 9 = σ1 66 9 := (Gsq210 66 9 rfl).trans rfl
        have esq210_9 : sq210 66 10 = σ1 66 10 := (Gsq210 66 10 rfl).trans rfl
        have esq210_10 : sq210 69 2 = σ1 69 2 := (Gsq210 69 2 rfl).trans rfl
        have esq210_11 : sq210 72 2 = σ1 72 2 := (Gsq210 72 2 rfl).trans rfl
        have esq210_12 : sq210 63 5 = σ1 63 5 := (Gsq210 63 5 rfl).trans rfl
        have etq210_6 : tq210 98 5 = σ2 98 5 := (Gtq210 98 5 rfl).trans es209.2.2.2.2.2.2.1
        have etq210_7 : tq210 98 6 = σ2 98 6 := (Gtq210 98 6 rfl).trans es209.2.2.2.2.2.2.2.1
        have etq210_8 : tq210 98 7 = 0 := (Gtq210 98 7 rfl).trans es209.2.2.2.2.2.2.2.2.1
        have etq210_9 : tq210 98 8 = σ2 98 8 := (Gtq210 98 8 rfl).trans es209.2.2.2.2.2.2.2.2.2.1
        have etq210_10 : tq210 98 9 = σ2 98 9 := (Gtq210 98 9 rfl).trans es209.2.2.2.2.2.2.2.2.2.2.1
        have etq210_11 : tq210 101 18 = σ2 101 18 := (Gtq210 101 18 rfl).trans es209.2.2.2.2.2.2.2.2.2.2.2.1
        have etq210_12 : tq210 101 25 = σ2 101 25 := (Gtq210 101 25 rfl).trans es209.2.2.2.2.2.2.2.2.2.2.2.2.1
        have etq210_13 : tq210 101 43 = σ2 101 43 := (Gtq210 101 43 rfl).trans es209.2.2.2.2.2.2.2.2.2.2.2.2.2.1
        rcases pcq210 with pcq210 | pcq210 | pcq210 | pcq210 | pcq210
        · show h_T g_P (g_Y ns) 154 132 [(0, .ref 98), (1, .int y1)] [] tq210 _
          refine h_aload_n (pc' := 133) rfl rfl rfl ?_
          refine h_getI (pc' := 136) (v := tq210 98 13) rfl rfl rfl rfl rfl rfl (fun z211 hz211 => ?_)
          have tz211 := tf_98_13 Itq210
          refine h_zle (tg := 140) (pc' := 139) rfl rfl rfl hz211 (fun c212 => absurd c212 (by omega)) (fun c212 => ?_)
          clear hz211
          refine d_toL (g_inj ns) hlw6 hRq210 (fun lvw213 memw213 hlw213 hRw213 => ?_)
          show h_T g_P (g_Y ns) 57 20 [(0, .ref 63), (1, .int (Int32.ofInt 0))] [] sq210 _
          refine h_vret rfl rfl (d_retn hlv4 ?_)
          refine h_aload_n (pc' := 22) rfl rfl rfl ?_
          refine h_call (sp := false) (pc' := 25) (M := [(0, .ref 63)]) rfl rfl rfl rfl rfl rfl rfl rfl ?_
          refine h_aload_n (pc' := 1) rfl rfl rfl ?_
          refine h_getI (pc' := 4) (v := sq210 63 2) rfl rfl rfl rfl rfl rfl (fun z214 hz214 => ?_)
          have tz214 := tf_63_2 Isq210
          refine h_zne (tg := 22) (pc' := 7) rfl rfl rfl hz214 (fun c215 => ?_) (fun c215 => absurd c215 (by omega))
          clear hz214
          refine h_iconst (pc' := 23) (x := (Int32.ofInt 0)) rfl rfl rfl ?_
          refine h_zret rfl rfl ci_0 (by omega) (h_Kv ?_)
          refine h_zeq (tg := 44) (pc' := 28) rfl rfl rfl ci_0 (fun c216 => ?_) (fun c216 => absurd c216 (by omega))
          refine h_bipush (pc' := 46) (x := (Int32.ofInt (-4))) rfl rfl cb_m4 ?_
          refine h_istore_n (pc' := 47) (M := [(2, .int (Int32.ofInt (-4))), (0, .ref 63), (1, .int x1)]) rfl rfl rfl rfl ?_
          refine h_aload_n (pc' := 48) rfl rfl rfl ?_
          refine h_getI (pc' := 51) (v := sq210 63 2) rfl rfl rfl rfl rfl rfl (fun z217 hz217 => ?_)
          refine h_zne (tg := 63) (pc' := 54) rfl rfl rfl hz217 (fun c218 => ?_) (fun c218 => absurd c218 (by omega))
          clear hz217
          refine h_vret rfl rfl (d_retn hlv1 ?_)
          exact h_wk [(0, .ref 63)] ⟨rfl, trivial⟩ (kx1 _ _ Isq210 Itq210 Fsq210 Ftq210 (by omega) (by omega) (by omega) (by omega) (by omega) ⟨by omega, by omega, by omega, by omega⟩ _ _ (h_al_ok ⟨rfl, trivial⟩ hlw213) hRw213)
        · show h_T g_P (g_Y ns) 154 132 [(0, .ref 98), (1, .int y1)] [] tq210 _
          refine h_aload_n (pc' := 133) rfl rfl rfl ?_
          refine h_getI (pc' := 136) (v := tq210 98 13) rfl rfl rfl rfl rfl rfl (fun z219 hz219 => ?_)
          have tz219 := tf_98_13 Itq210
          refine h_zle (tg := 140) (pc' := 139) rfl rfl rfl hz219 (fun c220 => ?_) (fun c220 => absurd c220 (by omega))
          clear hz219
          refine h_aload_n (pc' := 141) rfl rfl rfl ?_
          refine h_iload_n (pc' := 142) rfl rfl rfl ?_
          refine d_call (g_inj ns) (pc' := 145) (m := 153) (M := [(0, .ref 98), (1, .int y1)]) (rest := []) ⟨false, _, _, _, _, _, _, rfl, rfl, rfl, rfl, rfl, rfl, rfl⟩ (fun lv221 hlv221 => ?_)
          refine h_iload_n (pc' := 1) rfl rfl rfl ?_
          refine h_iconst (pc' := 2) (x := (Int32.ofInt 3)) rfl rfl rfl ?_
          refine h_cgt (tg := 61) (pc' := 5) rfl rfl rfl hy1 ci_3 (fun c222 => absurd c222 (by omega)) (fun c222 => ?_)
          refine h_aload_n (pc' := 6) rfl rfl rfl ?_
          refine h_getR (pc' := 9) rfl rfl rfl rfl rfl ?_
          refine h_aload_n (pc' := 10) rfl rfl rfl ?_
          refine h_getI (pc' := 13) (v := σ2 98 5) rfl rfl rfl rfl rfl etq210_6 (fun z223 hz223 => ?_)
          refine h_iload_n (pc' := 14) rfl rfl rfl ?_
          refine h_iast (pc' := 15) rfl rfl rfl rfl hz223 (by omega) (by omega) hy1 (h_fgt (E := fun s => s 98 15 = tq210 98 15 ∧ s 98 16 = tq210 98 16 ∧ s 98 17 = tq210 98 17 ∧ s 98 18 = tq210 98 18 ∧ s 98 13 = tq210 98 13 ∧ s 98 14 = tq210 98 14 ∧ s 98 5 = σ2 98 5 ∧ s 98 6 = σ2 98 6 ∧ s 98 7 = 0 ∧ s 98 8 = σ2 98 8 ∧ s 98 9 = σ2 98 9 ∧ s 101 18 = σ2 101 18 ∧ s 101 25 = σ2 101 25 ∧ s 101 43 = σ2 101 43 ∧ s = h_up tq210 101 (σ2 98 5) c1) _ (ip_101_0 Itq210 (by omega) (by omega)) (Ftq210.up rfl) ⟨rfl, rfl, rfl, rfl, rfl, rfl, etq210_6, etq210_7, etq210_8, etq210_9, etq210_10, h_up_n2 (by omega) etq210_11, h_up_n2 (by omega) etq210_12, h_up_n2 (by omega) etq210_13, rfl⟩ (fun s224 Is224 Fs224 (es224 : s224 98 15 = tq210 98 15 ∧ s224 98 16 = tq210 98 16 ∧ s224 98 17 = tq210 98 17 ∧ s224 98 18 = tq210 98 18 ∧ s224 98 13 = tq210 98 13 ∧ s224 98 14 = tq210 98 14 ∧ s224 98 5 = σ2 98 5 ∧ s224 98 6 = σ2 98 6 ∧ s224 98 7 = 0 ∧ s224 98 8 = σ2 98 8 ∧ s224 98 9 = σ2 98 9 ∧ s224 101 18 = σ2 101 18 ∧ s224 101 25 = σ2 101 25 ∧ s224 101 43 = σ2 101 43 ∧ s224 = h_up tq210 101 (σ2 98 5) c1) => ?_))
          clear hz223
          refine h_aload_n (pc' := 16) rfl rfl rfl ?_
          refine h_getI (pc' := 19) (v := tq210 98 17) rfl rfl rfl rfl rfl es224.2.2.1 (fun z225 hz225 => ?_)
          have tz225 := tf_98_17 Itq210
          refine h_iconst (pc' := 20) (x := (Int32.ofInt 2)) rfl rfl rfl ?_
          refine h_cne (tg := 48) (pc' := 23) rfl rfl rfl hz225 ci_2 (fun c226 => ?_) (fun c226 => absurd c226 (by omega))
          clear hz225
          refine h_aload_n (pc' := 49) rfl rfl rfl ?_
          refine h_dup (pc' := 50) rfl rfl rfl ?_
          refine h_getI (pc' := 53) (v := σ2 98 5) rfl rfl rfl rfl rfl es224.2.2.2.2.2.2.1 (fun z227 hz227 => ?_)
          refine h_iconst (pc' := 54) (x := (Int32.ofInt 1)) rfl rfl rfl ?_
          refine h_iadd (pc' := 55) rfl rfl hz227 ci_1 rfl (by omega) (by omega) (fun z228 hz228 => ?_)
          clear hz227
          refine h_put (pc' := 58) rfl rfl rfl rfl rfl rfl hz228 rfl (h_fgt (E := fun s => s 98 15 = tq210 98 15 ∧ s 98 16 = tq210 98 16 ∧ s 98 17 = tq210 98 17 ∧ s 98 18 = tq210 98 18 ∧ s 98 13 = tq210 98 13 ∧ s 98 14 = tq210 98 14 ∧ s 98 5 = ((σ2 98 5) + 1) ∧ s 98 6 = σ2 98 6 ∧ s 98 7 = 0 ∧ s 98 8 = σ2 98 8 ∧ s 98 9 = σ2 98 9 ∧ s 101 18 = σ2 101 18 ∧ s 101 25 = σ2 101 25 ∧ s 101 43 = σ2 101 43 ∧ s = h_up s224 98 5 ((σ2 98 5) + 1)) _ (if_98_5 Is224 (by omega)) (Fs224.up rfl) ⟨es224.1, es224.2.1, es224.2.2.1, es224.2.2.2.1, es224.2.2.2.2.1, es224.2.2.2.2.2.1, rfl, es224.2.2.2.2.2.2.2.1, es224.2.2.2.2.2.2.2.2.1, es224.2.2.2.2.2.2.2.2.2.1, es224.2.2.2.2.2.2.2.2.2.2.1, es224.2.2.2.2.2.2.2.2.2.2.2.1, es224.2.2.2.2.2.2.2.2.2.2.2.2.1, es224.2.2.2.2.2.2.2.2.2.2.2.2.2.1, rfl⟩ (fun s229 Is229 Fs229 (es229 : s229 98 15 = tq210 98 15 ∧ s229 98 16 = tq210 98 16 ∧ s229 98 17 = tq210 98 17 ∧ s229 98 18 = tq210 98 18 ∧ s229 98 13 = tq210 98 13 ∧ s229 98 14 = tq210 98 14 ∧ s229 98 5 = ((σ2 98 5) + 1) ∧ s229 98 6 = σ2 98 6 ∧ s229 98 7 = 0 ∧ s229 98 8 = σ2 98 8 ∧ s229 98 9 = σ2 98 9 ∧ s229 101 18 = σ2 101 18 ∧ s229 101 25 = σ2 101 25 ∧ s229 101 43 = σ2 101 43 ∧ s229 = h_up s224 98 5 ((σ2 98 5) + 1)) => ?_))
          refine h_goto (pc' := 178) rfl rfl ?_
          refine h_vret rfl rfl (d_retn hlv221 ?_)
          refine d_toL (g_inj ns) hlw6 hRq210 (fun lvw230 memw230 hlw230 hRw230 => ?_)
          show h_T g_P (g_Y ns) 57 20 [(0, .ref 63), (1, .int (Int32.ofInt 0))] [] sq210 _
          refine h_vret rfl rfl (d_retn hlv4 ?_)
          refine h_aload_n (pc' := 22) rfl rfl rfl ?_
          refine h_call (sp := false) (pc' := 25) (M := [(0, .ref 63)]) rfl rfl rfl rfl rfl rfl rfl rfl ?_
          refine h_aload_n (pc' := 1) rfl rfl rfl ?_
          refine h_getI (pc' := 4) (v := sq210 63 2) rfl rfl rfl rfl rfl rfl (fun z231 hz231 => ?_)
          have tz231 := tf_63_2 Isq210
          refine h_zne (tg := 22) (pc' := 7) rfl rfl rfl hz231 (fun c232 => absurd c232 (by omega)) (fun c232 => ?_)
          clear hz231
          refine h_aload_n (pc' := 8) rfl rfl rfl ?_
          refine h_getR (pc' := 11) rfl rfl rfl rfl rfl ?_
          refine h_getI (pc' := 14) (v := sq210 64 3) rfl rfl rfl rfl rfl rfl (fun z233 hz233 => ?_)
          have tz233 := tf_64_3 Isq210
          refine h_iconst (pc' := 15) (x := (Int32.ofInt 2)) rfl rfl rfl ?_
          refine h_cne (tg := 22) (pc' := 18) rfl rfl rfl hz233 ci_2 (fun c234 => ?_) (fun c234 => absurd c234 (by omega))
          clear hz233
          refine h_iconst (pc' := 23) (x := (Int32.ofInt 0)) rfl rfl rfl ?_
          refine h_zret rfl rfl ci_0 (by omega) (h_Kv ?_)
          refine h_zeq (tg := 44) (pc' := 28) rfl rfl rfl ci_0 (fun c235 => ?_) (fun c235 => absurd c235 (by omega))
          refine h_bipush (pc' := 46) (x := (Int32.ofInt (-4))) rfl rfl cb_m4 ?_
          refine h_istore_n (pc' := 47) (M := [(2, .int (Int32.ofInt (-4))), (0, .ref 63), (1, .int x1)]) rfl rfl rfl rfl ?_
          refine h_aload_n (pc' := 48) rfl rfl rfl ?_
          refine h_getI (pc' := 51) (v := sq210 63 2) rfl rfl rfl rfl rfl rfl (fun z236 hz236 => ?_)
          refine h_zne (tg := 63) (pc' := 54) rfl rfl rfl hz236 (fun c237 => absurd c237 (by omega)) (fun c237 => ?_)
          clear hz236
          refine h_aload_n (pc' := 55) rfl rfl rfl ?_
          refine h_getR (pc' := 58) rfl rfl rfl rfl rfl ?_
          refine h_iload_n (pc' := 59) rfl rfl rfl ?_
          refine h_iload_n (pc' := 60) rfl rfl rfl ?_
          refine h_call (sp := false) (pc' := 63) (M := [(0, .ref 66), (1, .int x1), (2, .int (Int32.ofInt (-4)))]) rfl rfl rfl rfl rfl rfl rfl rfl ?_
          refine h_aload_n (pc' := 1) rfl rfl rfl ?_
          refine h_getI (pc' := 4) (v := σ1 66 8) rfl rfl rfl rfl rfl esq210_7 (fun z238 hz238 => ?_)
          refine h_bipush (pc' := 6) (x := (Int32.ofInt 6)) rfl rfl cb_6 ?_
          refine h_cge (tg := 39) (pc' := 9) rfl rfl rfl hz238 ci_6 (fun c239 => absurd c239 (by omega)) (fun c239 => ?_)
          clear hz238
          refine h_aload_n (pc' := 10) rfl rfl rfl ?_
          refine h_getR (pc' := 13) rfl rfl rfl rfl rfl ?_
          refine h_aload_n (pc' := 14) rfl rfl rfl ?_
          refine h_getI (pc' := 17) (v := σ1 66 8) rfl rfl rfl rfl rfl esq210_7 (fun z240 hz240 => ?_)
          refine h_iload_n (pc' := 18) rfl rfl rfl ?_
          refine h_iast (pc' := 19) rfl rfl rfl rfl hz240 (by omega) (by omega) hx1 (h_fgt (E := fun s => s 64 2 = sq210 64 2 ∧ s 64 4 = sq210 64 4 ∧ s 64 3 = sq210 64 3 ∧ s 64 5 = sq210 64 5 ∧ s 63 2 = sq210 63 2 ∧ s 63 3 = sq210 63 3 ∧ s 64 1 = σ1 64 1 ∧ s 66 8 = σ1 66 8 ∧ s 66 9 = σ1 66 9 ∧ s 66 10 = σ1 66 10 ∧ s 69 2 = σ1 69 2 ∧ s 72 2 = σ1 72 2 ∧ s 63 5 = σ1 63 5 ∧ s = h_up sq210 67 (σ1 66 8) a1) _ (in_67 Isq210 (by omega)) (Fsq210.up rfl) ⟨rfl, rfl, rfl, rfl, rfl, rfl, esq210_6, esq210_7, esq210_8, esq210_9, esq210_10, esq210_11, esq210_12, rfl⟩ (fun s241 Is241 Fs241 (es241 : s241 64 2 = sq210 64 2 ∧ s241 64 4 = sq210 64 4 ∧ s241 64 3 = sq210 64 3 ∧ s241 64 5 = sq210 64 5 ∧ s241 63 2 = sq210 63 2 ∧ s241 63 3 = sq210 63 3 ∧ s241 64 1 = σ1 64 1 ∧ s241 66 8 = σ1 66 8 ∧ s241 66 9 = σ1 66 9 ∧ s241 66 10 = σ1 66 10 ∧ s241 69 2 = σ1 69 2 ∧ s241 72 2 = σ1 72 2 ∧ s241 63 5 = σ1 63 5 ∧ s241 = h_up sq210 67 (σ1 66 8) a1) => ?_))
          clear hz240
          refine h_aload_n (pc' := 20) rfl rfl rfl ?_
          refine h_getR (pc' := 23) rfl rfl rfl rfl rfl ?_
          refine h_aload_n (pc' := 24) rfl rfl rfl ?_
          refine h_getI (pc' := 27) (v := σ1 66 8) rfl rfl rfl rfl rfl es241.2.2.2.2.2.2.2.1 (fun z242 hz242 => ?_)
          refine h_iload_n (pc' := 28) rfl rfl rfl ?_
          refine h_iast (pc' := 29) rfl rfl rfl rfl hz242 (by omega) (by omega) ci_m4 (h_fgt (E := fun s => s 64 2 = sq210 64 2 ∧ s 64 4 = sq210 64 4 ∧ s 64 3 = sq210 64 3 ∧ s 64 5 = sq210 64 5 ∧ s 63 2 = sq210 63 2 ∧ s 63 3 = sq210 63 3 ∧ s 64 1 = σ1 64 1 ∧ s 66 8 = σ1 66 8 ∧ s 66 9 = σ1 66 9 ∧ s 66 10 = σ1 66 10 ∧ s 69 2 = σ1 69 2 ∧ s 72 2 = σ1 72 2 ∧ s 63 5 = σ1 63 5 ∧ s = h_up s241 68 (σ1 66 8) (-4)) _ (in_68 Is241 (by omega)) (Fs241.up rfl) ⟨es241.1, es241.2.1, es241.2.2.1, es241.2.2.2.1, es241.2.2.2.2.1, es241.2.2.2.2.2.1, es241.2.2.2.2.2.2.1, es241.2.2.2.2.2.2.2.1, es241.2.2.2.2.2.2.2.2.1, es241.2.2.2.2.2.2.2.2.2.1, es241.2.2.2.2.2.2.2.2.2.2.1, es241.2.2.2.2.2.2.2.2.2.2.2.1, es241.2.2.2.2.2.2.2.2.2.2.2.2.1, rfl⟩ (fun s243 Is243 Fs243 (es243 : s243 64 2 = sq210 64 2 ∧ s243 64 4 = sq210 64 4 ∧ s243 64 3 = sq210 64 3 ∧ s243 64 5 = sq210 64 5 ∧ s243 63 2 = sq210 63 2 ∧ s243 63 3 = sq210 63 3 ∧ s243 64 1 = σ1 64 1 ∧ s243 66 8 = σ1 66 8 ∧ s243 66 9 = σ1 66 9 ∧ s243 66 10 = σ1 66 10 ∧ s243 69 2 = σ1 69 2 ∧ s243 72 2 = σ1 72 2 ∧ s243 63 5 = σ1 63 5 ∧ s243 = h_up s241 68 (σ1 66 8) (-4)) => ?_))
          clear hz242
          refine h_aload_n (pc' := 30) rfl rfl rfl ?_
          refine h_dup (pc' := 31) rfl rfl rfl ?_
          refine h_getI (pc' := 34) (v := σ1 66 8) rfl rfl rfl rfl rfl es243.2.2.2.2.2.2.2.1 (fun z244 hz244 => ?_)
          refine h_iconst (pc' := 35) (x := (Int32.ofInt 1)) rfl rfl rfl ?_
          refine h_iadd (pc' := 36) rfl rfl hz244 ci_1 rfl (by omega) (by omega) (fun z245 hz245 => ?_)
          clear hz244
          refine h_put (pc' := 39) rfl rfl rfl rfl rfl rfl hz245 rfl (h_fgt (E := fun s => s 64 2 = sq210 64 2 ∧ s 64 4 = sq210 64 4 ∧ s 64 3 = sq210 64 3 ∧ s 64 5 = sq210 64 5 ∧ s 63 2 = sq210 63 2 ∧ s 63 3 = sq210 63 3 ∧ s 64 1 = σ1 64 1 ∧ s 66 8 = ((σ1 66 8) + 1) ∧ s 66 9 = σ1 66 9 ∧ s 66 10 = σ1 66 10 ∧ s 69 2 = σ1 69 2 ∧ s 72 2 = σ1 72 2 ∧ s 63 5 = σ1 63 5 ∧ s = h_up s243 66 8 ((σ1 66 8) + 1)) _ (if_66_8 Is243 (by omega)) (Fs243.up rfl) ⟨es243.1, es243.2.1, es243.2.2.1, es243.2.2.2.1, es243.2.2.2.2.1, es243.2.2.2.2.2.1, es243.2.2.2.2.2.2.1, rfl, es243.2.2.2.2.2.2.2.2.1, es243.2.2.2.2.2.2.2.2.2.1, es243.2.2.2.2.2.2.2.2.2.2.1, es243.2.2.2.2.2.2.2.2.2.2.2.1, es243.2.2.2.2.2.2.2.2.2.2.2.2.1, rfl⟩ (fun s246 Is246 Fs246 (es246 : s246 64 2 = sq210 64 2 ∧ s246 64 4 = sq210 64 4 ∧ s246 64 3 = sq210 64 3 ∧ s246 64 5 = sq210 64 5 ∧ s246 63 2 = sq210 63 2 ∧ s246 63 3 = sq210 63 3 ∧ s246 64 1 = σ1 64 1 ∧ s246 66 8 = ((σ1 66 8) + 1) ∧ s246 66 9 = σ1 66 9 ∧ s246 66 10 = σ1 66 10 ∧ s246 69 2 = σ1 69 2 ∧ s246 72 2 = σ1 72 2 ∧ s246 63 5 = σ1 63 5 ∧ s246 = h_up s243 66 8 ((σ1 66 8) + 1)) => ?_))
          refine h_vret rfl rfl (h_Kn ?_)
          refine h_vret rfl rfl (d_retn hlv1 ?_)
          exact h_wk [(0, .ref 63)] ⟨rfl, trivial⟩ (kx0 _ _ Is246 Is229 Fs246 Fs229 (by omega) (by omega) (by omega) (by omega) (by omega) (fun _ => d_mk (es246.2.2.2.2.2.2.2.1) (es246.2.2.2.2.2.2.2.2.1) (es246.2.2.2.2.2.2.2.2.2.1) (es246.2.2.2.2.2.2.2.2.2.2.1) (es246.2.2.2.2.2.2.2.2.2.2.2.1) (es246.2.2.2.2.2.2.2.2.2.2.2.2.1) (fun j => (h_upo es246.2.2.2.2.2.2.2.2.2.2.2.2.2 rfl j).trans ((h_upo es243.2.2.2.2.2.2.2.2.2.2.2.2.2 rfl j).trans ((h_upi es241.2.2.2.2.2.2.2.2.2.2.2.2.2 j).trans (congrArg (fun z => if j = (σ1 66 8) then a1 else z) ((Gsq210 67 j rfl)))))) (fun j => (h_upo es246.2.2.2.2.2.2.2.2.2.2.2.2.2 rfl j).trans ((h_upi es243.2.2.2.2.2.2.2.2.2.2.2.2.2 j).trans (congrArg (fun z => if j = (σ1 66 8) then (-4) else z) ((h_upo es241.2.2.2.2.2.2.2.2.2.2.2.2.2 rfl j).trans ((Gsq210 68 j rfl)))))) (fun j => (h_upo es246.2.2.2.2.2.2.2.2.2.2.2.2.2 rfl j).trans ((h_upo es243.2.2.2.2.2.2.2.2.2.2.2.2.2 rfl j).trans ((h_upo es241.2.2.2.2.2.2.2.2.2.2.2.2.2 rfl j).trans ((Gsq210 70 j rfl))))) (fun j => (h_upo es246.2.2.2.2.2.2.2.2.2.2.2.2.2 rfl j).trans ((h_upo es243.2.2.2.2.2.2.2.2.2.2.2.2.2 rfl j).trans ((h_upo es241.2.2.2.2.2.2.2.2.2.2.2.2.2 rfl j).trans ((Gsq210 71 j rfl))))) (fun j => (h_upo es246.2.2.2.2.2.2.2.2.2.2.2.2.2 rfl j).trans ((h_upo es243.2.2.2.2.2.2.2.2.2.2.2.2.2 rfl j).trans ((h_upo es241.2.2.2.2.2.2.2.2.2.2.2.2.2 rfl j).trans ((Gsq210 73 j rfl))))) (fun j => (h_upo es246.2.2.2.2.2.2.2.2.2.2.2.2.2 rfl j).trans ((h_upo es243.2.2.2.2.2.2.2.2.2.2.2.2.2 rfl j).trans ((h_upo es241.2.2.2.2.2.2.2.2.2.2.2.2.2 rfl j).trans ((Gsq210 74 j rfl))))) (fun j => (h_upo es246.2.2.2.2.2.2.2.2.2.2.2.2.2 rfl j).trans ((h_upo es243.2.2.2.2.2.2.2.2.2.2.2.2.2 rfl j).trans ((h_upo es241.2.2.2.2.2.2.2.2.2.2.2.2.2 rfl j).trans ((Gsq210 75 j rfl))))) (fun j => (h_upo es246.2.2.2.2.2.2.2.2.2.2.2.2.2 rfl j).trans ((h_upo es243.2.2.2.2.2.2.2.2.2.2.2.2.2 rfl j).trans ((h_upo es241.2.2.2.2.2.2.2.2.2.2.2.2.2 rfl j).trans ((Gsq210 76 j rfl))))) (fun j => (h_upo es246.2.2.2.2.2.2.2.2.2.2.2.2.2 rfl j).trans ((h_upo es243.2.2.2.2.2.2.2.2.2.2.2.2.2 rfl j).trans ((h_upo es241.2.2.2.2.2.2.2.2.2.2.2.2.2 rfl j).trans ((Gsq210 77 j rfl))))) (fun j => (h_upo es246.2.2.2.2.2.2.2.2.2.2.2.2.2 rfl j).trans ((h_upo es243.2.2.2.2.2.2.2.2.2.2.2.2.2 rfl j).trans ((h_upo es241.2.2.2.2.2.2.2.2.2.2.2.2.2 rfl j).trans ((Gsq210 78 j rfl))))) (es229.2.2.2.2.2.2.1) (es229.2.2.2.2.2.2.2.1) (es229.2.2.2.2.2.2.2.2.1) (es229.2.2.2.2.2.2.2.2.2.1) (es229.2.2.2.2.2.2.2.2.2.2.1) (fun j => (h_upo es229.2.2.2.2.2.2.2.2.2.2.2.2.2.2 rfl j).trans ((h_upi es224.2.2.2.2.2.2.2.2.2.2.2.2.2.2 j).trans (congrArg (fun z => if j = (σ2 98 5) then c1 else z) ((Gtq210 101 j rfl).trans ((h_upo es209.2.2.2.2.2.2.2.2.2.2.2.2.2.2 rfl j)))))) (r_one0 pr12 (by omega) (by omega) (by omega) (by omega) (by omega) (by omega) (by omega))) (Or.inr (Or.inl ⟨by omega, by omega, by omega, by omega, by omega⟩)) _ _ (h_al_ok ⟨rfl, trivial⟩ hlw230) hRw230)
        · show h_T g_P (g_Y ns) 154 132 [(0, .ref 98), (1, .int y1)] [] tq210 _
          refine h_aload_n (pc' := 133) rfl rfl rfl ?_
          refine h_getI (pc' := 136) (v := tq210 98 13) rfl rfl rfl rfl rfl rfl (fun z247 hz247 => ?_)
          have tz247 := tf_98_13 Itq210
          refine h_zle (tg := 140) (pc' := 139) rfl rfl rfl hz247 (fun c248 => ?_) (fun c248 => absurd c248 (by omega))
          clear hz247
          refine h_aload_n (pc' := 141) rfl rfl rfl ?_
          refine h_iload_n (pc' := 142) rfl rfl rfl ?_
          refine d_call (g_inj ns) (pc' := 145) (m := 153) (M := [(0, .ref 98), (1, .int y1)]) (rest := []) ⟨false, _, _, _, _, _, _, rfl, rfl, rfl, rfl, rfl, rfl, rfl⟩ (fun lv249 hlv249 => ?_)
          refine h_iload_n (pc' := 1) rfl rfl rfl ?_
          refine h_iconst (pc' := 2) (x := (Int32.ofInt 3)) rfl rfl rfl ?_
          refine h_cgt (tg := 61) (pc' := 5) rfl rfl rfl hy1 ci_3 (fun c250 => absurd c250 (by omega)) (fun c250 => ?_)
          refine h_aload_n (pc' := 6) rfl rfl rfl ?_
          refine h_getR (pc' := 9) rfl rfl rfl rfl rfl ?_
          refine h_aload_n (pc' := 10) rfl rfl rfl ?_
          refine h_getI (pc' := 13) (v := σ2 98 5) rfl rfl rfl rfl rfl etq210_6 (fun z251 hz251 => ?_)
          refine h_iload_n (pc' := 14) rfl rfl rfl ?_
          refine h_iast (pc' := 15) rfl rfl rfl rfl hz251 (by omega) (by omega) hy1 (h_fgt (E := fun s => s 98 15 = tq210 98 15 ∧ s 98 16 = tq210 98 16 ∧ s 98 17 = tq210 98 17 ∧ s 98 18 = tq210 98 18 ∧ s 98 13 = tq210 98 13 ∧ s 98 14 = tq210 98 14 ∧ s 98 5 = σ2 98 5 ∧ s 98 6 = σ2 98 6 ∧ s 98 7 = 0 ∧ s 98 8 = σ2 98 8 ∧ s 98 9 = σ2 98 9 ∧ s 101 18 = σ2 101 18 ∧ s 101 25 = σ2 101 25 ∧ s 101 43 = σ2 101 43 ∧ s = h_up tq210 101 (σ2 98 5) c1) _ (ip_101_0 Itq210 (by omega) (by omega)) (Ftq210.up rfl) ⟨rfl, rfl, rfl, rfl, rfl, rfl, etq210_6, etq210_7, etq210_8, etq210_9, etq210_10, h_up_n2 (by omega) etq210_11, h_up_n2 (by omega) etq210_12, h_up_n2 (by omega) etq210_13, rfl⟩ (fun s252 Is252 Fs252 (es252 : s252 98 15 = tq210 98 15 ∧ s252 98 16 = tq210 98 16 ∧ s252 98 17 = tq210 98 17 ∧ s252 98 18 = tq210 98 18 ∧ s252 98 13 = tq210 98 13 ∧ s252 98 14 = tq210 98 14 ∧ s252 98 5 = σ2 98 5 ∧ s252 98 6 = σ2 98 6 ∧ s252 98 7 = 0 ∧ s252 98 8 = σ2 98 8 ∧ s252 98 9 = σ2 98 9 ∧ s252 101 18 = σ2 101 18 ∧ s252 101 25 = σ2 101 25 ∧ s252 101 43 = σ2 101 43 ∧ s252 = h_up tq210 101 (σ2 98 5) c1) => ?_))
          clear hz251
          refine h_aload_n (pc' := 16) rfl rfl rfl ?_
          refine h_getI (pc' := 19) (v := tq210 98 17) rfl rfl rfl rfl rfl es252.2.2.1 (fun z253 hz253 => ?_)
          have tz253 := tf_98_17 Itq210
          refine h_iconst (pc' := 20) (x := (Int32.ofInt 2)) rfl rfl rfl ?_
          refine h_cne (tg := 48) (pc' := 23) rfl rfl rfl hz253 ci_2 (fun c254 => ?_) (fun c254 => absurd c254 (by omega))
          clear hz253
          refine h_aload_n (pc' := 49) rfl rfl rfl ?_
          refine h_dup (pc' := 50) rfl rfl rfl ?_
          refine h_getI (pc' := 53) (v := σ2 98 5) rfl rfl rfl rfl rfl es252.2.2.2.2.2.2.1 (fun z255 hz255 => ?_)
          refine h_iconst (pc' := 54) (x := (Int32.ofInt 1)) rfl rfl rfl ?_
          refine h_iadd (pc' := 55) rfl rfl hz255 ci_1 rfl (by omega) (by omega) (fun z256 hz256 => ?_)
          clear hz255
          refine h_put (pc' := 58) rfl rfl rfl rfl rfl rfl hz256 rfl (h_fgt (E := fun s => s 98 15 = tq210 98 15 ∧ s 98 16 = tq210 98 16 ∧ s 98 17 = tq210 98 17 ∧ s 98 18 = tq210 98 18 ∧ s 98 13 = tq210 98 13 ∧ s 98 14 = tq210 98 14 ∧ s 98 5 = ((σ2 98 5) + 1) ∧ s 98 6 = σ2 98 6 ∧ s 98 7 = 0 ∧ s 98 8 = σ2 98 8 ∧ s 98 9 = σ2 98 9 ∧ s 101 18 = σ2 101 18 ∧ s 101 25 = σ2 101 25 ∧ s 101 43 = σ2 101 43 ∧ s = h_up s252 98 5 ((σ2 98 5) + 1)) _ (if_98_5 Is252 (by omega)) (Fs252.up rfl) ⟨es252.1, es252.2.1, es252.2.2.1, es252.2.2.2.1, es252.2.2.2.2.1, es252.2.2.2.2.2.1, rfl, es252.2.2.2.2.2.2.2.1, es252.2.2.2.2.2.2.2.2.1, es252.2.2.2.2.2.2.2.2.2.1, es252.2.2.2.2.2.2.2.2.2.2.1, es252.2.2.2.2.2.2.2.2.2.2.2.1, es252.2.2.2.2.2.2.2.2.2.2.2.2.1, es252.2.2.2.2.2.2.2.2.2.2.2.2.2.1, rfl⟩ (fun s257 Is257 Fs257 (es257 : s257 98 15 = tq210 98 15 ∧ s257 98 16 = tq210 98 16 ∧ s257 98 17 = tq210 98 17 ∧ s257 98 18 = tq210 98 18 ∧ s257 98 13 = tq210 98 13 ∧ s257 98 14 = tq210 98 14 ∧ s257 98 5 = ((σ2 98 5) + 1) ∧ s257 98 6 = σ2 98 6 ∧ s257 98 7 = 0 ∧ s257 98 8 = σ2 98 8 ∧ s257 98 9 = σ2 98 9 ∧ s257 101 18 = σ2 101 18 ∧ s257 101 25 = σ2 101 25 ∧ s257 101 43 = σ2 101 43 ∧ s257 = h_up s252 98 5 ((σ2 98 5) + 1)) => ?_))
          refine h_goto (pc' := 178) rfl rfl ?_
          refine h_vret rfl rfl (d_retn hlv249 ?_)
          refine d_toL (g_inj ns) hlw6 hRq210 (fun lvw258 memw258 hlw258 hRw258 => ?_)
          show h_T g_P (g_Y ns) 57 20 [(0, .ref 63), (1, .int (Int32.ofInt 0))] [] sq210 _
          refine h_vret rfl rfl (d_retn hlv4 ?_)
          refine h_aload_n (pc' := 22) rfl rfl rfl ?_
          refine h_call (sp := false) (pc' := 25) (M := [(0, .ref 63)]) rfl rfl rfl rfl rfl rfl rfl rfl ?_
          refine h_aload_n (pc' := 1) rfl rfl rfl ?_
          refine h_getI (pc' := 4) (v := sq210 63 2) rfl rfl rfl rfl rfl rfl (fun z259 hz259 => ?_)
          have tz259 := tf_63_2 Isq210
          refine h_zne (tg := 22) (pc' := 7) rfl rfl rfl hz259 (fun c260 => absurd c260 (by omega)) (fun c260 => ?_)
          clear hz259
          refine h_aload_n (pc' := 8) rfl rfl rfl ?_
          refine h_getR (pc' := 11) rfl rfl rfl rfl rfl ?_
          refine h_getI (pc' := 14) (v := sq210 64 3) rfl rfl rfl rfl rfl rfl (fun z261 hz261 => ?_)
          have tz261 := tf_64_3 Isq210
          refine h_iconst (pc' := 15) (x := (Int32.ofInt 2)) rfl rfl rfl ?_
          refine h_cne (tg := 22) (pc' := 18) rfl rfl rfl hz261 ci_2 (fun c262 => ?_) (fun c262 => absurd c262 (by omega))
          clear hz261
          refine h_iconst (pc' := 23) (x := (Int32.ofInt 0)) rfl rfl rfl ?_
          refine h_zret rfl rfl ci_0 (by omega) (h_Kv ?_)
          refine h_zeq (tg := 44) (pc' := 28) rfl rfl rfl ci_0 (fun c263 => ?_) (fun c263 => absurd c263 (by omega))
          refine h_bipush (pc' := 46) (x := (Int32.ofInt (-4))) rfl rfl cb_m4 ?_
          refine h_istore_n (pc' := 47) (M := [(2, .int (Int32.ofInt (-4))), (0, .ref 63), (1, .int x1)]) rfl rfl rfl rfl ?_
          refine h_aload_n (pc' := 48) rfl rfl rfl ?_
          refine h_getI (pc' := 51) (v := sq210 63 2) rfl rfl rfl rfl rfl rfl (fun z264 hz264 => ?_)
          refine h_zne (tg := 63) (pc' := 54) rfl rfl rfl hz264 (fun c265 => absurd c265 (by omega)) (fun c265 => ?_)
          clear hz264
          refine h_aload_n (pc' := 55) rfl rfl rfl ?_
          refine h_getR (pc' := 58) rfl rfl rfl rfl rfl ?_
          refine h_iload_n (pc' := 59) rfl rfl rfl ?_
          refine h_iload_n (pc' := 60) rfl rfl rfl ?_
          refine h_call (sp := false) (pc' := 63) (M := [(0, .ref 66), (1, .int x1), (2, .int (Int32.ofInt (-4)))]) rfl rfl rfl rfl rfl rfl rfl rfl ?_
          refine h_aload_n (pc' := 1) rfl rfl rfl ?_
          refine h_getI (pc' := 4) (v := σ1 66 8) rfl rfl rfl rfl rfl esq210_7 (fun z266 hz266 => ?_)
          refine h_bipush (pc' := 6) (x := (Int32.ofInt 6)) rfl rfl cb_6 ?_
          refine h_cge (tg := 39) (pc' := 9) rfl rfl rfl hz266 ci_6 (fun c267 => absurd c267 (by omega)) (fun c267 => ?_)
          clear hz266
          refine h_aload_n (pc' := 10) rfl rfl rfl ?_
          refine h_getR (pc' := 13) rfl rfl rfl rfl rfl ?_
          refine h_aload_n (pc' := 14) rfl rfl rfl ?_
          refine h_getI (pc' := 17) (v := σ1 66 8) rfl rfl rfl rfl rfl esq210_7 (fun z268 hz268 => ?_)
          refine h_iload_n (pc' := 18) rfl rfl rfl ?_
          refine h_iast (pc' := 19) rfl rfl rfl rfl hz268 (by omega) (by omega) hx1 (h_fgt (E := fun s => s 64 2 = sq210 64 2 ∧ s 64 4 = sq210 64 4 ∧ s 64 3 = sq210 64 3 ∧ s 64 5 = sq210 64 5 ∧ s 63 2 = sq210 63 2 ∧ s 63 3 = sq210 63 3 ∧ s 64 1 = σ1 64 1 ∧ s 66 8 = σ1 66 8 ∧ s 66 9 = σ1 66 9 ∧ s 66 10 = σ1 66 10 ∧ s 69 2 = σ1 69 2 ∧ s 72 2 = σ1 72 2 ∧ s 63 5 = σ1 63 5 ∧ s = h_up sq210 67 (σ1 66 8) a1) _ (in_67 Isq210 (by omega)) (Fsq210.up rfl) ⟨rfl, rfl, rfl, rfl, rfl, rfl, esq210_6, esq210_7, esq210_8, esq210_9, esq210_10, esq210_11, esq210_12, rfl⟩ (fun s269 Is269 Fs269 (es269 : s269 64 2 = sq210 64 2 ∧ s269 64 4 = sq210 64 4 ∧ s269 64 3 = sq210 64 3 ∧ s269 64 5 = sq210 64 5 ∧ s269 63 2 = sq210 63 2 ∧ s269 63 3 = sq210 63 3 ∧ s269 64 1 = σ1 64 1 ∧ s269 66 8 = σ1 66 8 ∧ s269 66 9 = σ1 66 9 ∧ s269 66 10 = σ1 66 10 ∧ s269 69 2 = σ1 69 2 ∧ s269 72 2 = σ1 72 2 ∧ s269 63 5 = σ1 63 5 ∧ s269 = h_up sq210 67 (σ1 66 8) a1) => ?_))
          clear hz268
          refine h_aload_n (pc' := 20) rfl rfl rfl ?_
          refine h_getR (pc' := 23) rfl rfl rfl rfl rfl ?_
          refine h_aload_n (pc' := 24) rfl rfl rfl ?_
          refine h_getI (pc' := 27) (v := σ1 66 8) rfl rfl rfl rfl rfl es269.2.2.2.2.2.2.2.1 (fun z270 hz270 => ?_)
          refine h_iload_n (pc' := 28) rfl rfl rfl ?_
          refine h_iast (pc' := 29) rfl rfl rfl rfl hz270 (by omega) (by omega) ci_m4 (h_fgt (E := fun s => s 64 2 = sq210 64 2 ∧ s 64 4 = sq210 64 4 ∧ s 64 3 = sq210 64 3 ∧ s 64 5 = sq210 64 5 ∧ s 63 2 = sq210 63 2 ∧ s 63 3 = sq210 63 3 ∧ s 64 1 = σ1 64 1 ∧ s 66 8 = σ1 66 8 ∧ s 66 9 = σ1 66 9 ∧ s 66 10 = σ1 66 10 ∧ s 69 2 = σ1 69 2 ∧ s 72 2 = σ1 72 2 ∧ s 63 5 = σ1 63 5 ∧ s = h_up s269 68 (σ1 66 8) (-4)) _ (in_68 Is269 (by omega)) (Fs269.up rfl) ⟨es269.1, es269.2.1, es269.2.2.1, es269.2.2.2.1, es269.2.2.2.2.1, es269.2.2.2.2.2.1, es269.2.2.2.2.2.2.1, es269.2.2.2.2.2.2.2.1, es269.2.2.2.2.2.2.2.2.1, es269.2.2.2.2.2.2.2.2.2.1, es269.2.2.2.2.2.2.2.2.2.2.1, es269.2.2.2.2.2.2.2.2.2.2.2.1, es269.2.2.2.2.2.2.2.2.2.2.2.2.1, rfl⟩ (fun s271 Is271 Fs271 (es271 : s271 64 2 = sq210 64 2 ∧ s271 64 4 = sq210 64 4 ∧ s271 64 3 = sq210 64 3 ∧ s271 64 5 = sq210 64 5 ∧ s271 63 2 = sq210 63 2 ∧ s271 63 3 = sq210 63 3 ∧ s271 64 1 = σ1 64 1 ∧ s271 66 8 = σ1 66 8 ∧ s271 66 9 = σ1 66 9 ∧ s271 66 10 = σ1 66 10 ∧ s271 69 2 = σ1 69 2 ∧ s271 72 2 = σ1 72 2 ∧ s271 63 5 = σ1 63 5 ∧ s271 = h_up s269 68 (σ1 66 8) (-4)) => ?_))
          clear hz270
          refine h_aload_n (pc' := 30) rfl rfl rfl ?_
          refine h_dup (pc' := 31) rfl rfl rfl ?_
          refine h_getI (pc' := 34) (v := σ1 66 8) rfl rfl rfl rfl rfl es271.2.2.2.2.2.2.2.1 (fun z272 hz272 => ?_)
          refine h_iconst (pc' := 35) (x := (Int32.ofInt 1)) rfl rfl rfl ?_
          refine h_iadd (pc' := 36) rfl rfl hz272 ci_1 rfl (by omega) (by omega) (fun z273 hz273 => ?_)
          clear hz272
          refine h_put (pc' := 39) rfl rfl rfl rfl rfl rfl hz273 rfl (h_fgt (E := fun s => s 64 2 = sq210 64 2 ∧ s 64 4 = sq210 64 4 ∧ s 64 3 = sq210 64 3 ∧ s 64 5 = sq210 64 5 ∧ s 63 2 = sq210 63 2 ∧ s 63 3 = sq210 63 3 ∧ s 64 1 = σ1 64 1 ∧ s 66 8 = ((σ1 66 8) + 1) ∧ s 66 9 = σ1 66 9 ∧ s 66 10 = σ1 66 10 ∧ s 69 2 = σ1 69 2 ∧ s 72 2 = σ1 72 2 ∧ s 63 5 = σ1 63 5 ∧ s = h_up s271 66 8 ((σ1 66 8) + 1)) _ (if_66_8 Is271 (by omega)) (Fs271.up rfl) ⟨es271.1, es271.2.1, es271.2.2.1, es271.2.2.2.1, es271.2.2.2.2.1, es271.2.2.2.2.2.1, es271.2.2.2.2.2.2.1, rfl, es271.2.2.2.2.2.2.2.2.1, es271.2.2.2.2.2.2.2.2.2.1, es271.2.2.2.2.2.2.2.2.2.2.1, es271.2.2.2.2.2.2.2.2.2.2.2.1, es271.2.2.2.2.2.2.2.2.2.2.2.2.1, rfl⟩ (fun s274 Is274 Fs274 (es274 : s274 64 2 = sq210 64 2 ∧ s274 64 4 = sq210 64 4 ∧ s274 64 3 = sq210 64 3 ∧ s274 64 5 = sq210 64 5 ∧ s274 63 2 = sq210 63 2 ∧ s274 63 3 = sq210 63 3 ∧ s274 64 1 = σ1 64 1 ∧ s274 66 8 = ((σ1 66 8) + 1) ∧ s274 66 9 = σ1 66 9 ∧ s274 66 10 = σ1 66 10 ∧ s274 69 2 = σ1 69 2 ∧ s274 72 2 = σ1 72 2 ∧ s274 63 5 = σ1 63 5 ∧ s274 = h_up s271 66 8 ((σ1 66 8) + 1)) => ?_))
          refine h_vret rfl rfl (h_Kn ?_)
          refine h_vret rfl rfl (d_retn hlv1 ?_)
          exact h_wk [(0, .ref 63)] ⟨rfl, trivial⟩ (kx0 _ _ Is274 Is257 Fs274 Fs257 (by omega) (by omega) (by omega) (by omega) (by omega) (fun _ => d_mk (es274.2.2.2.2.2.2.2.1) (es274.2.2.2.2.2.2.2.2.1) (es274.2.2.2.2.2.2.2.2.2.1) (es274.2.2.2.2.2.2.2.2.2.2.1) (es274.2.2.2.2.2.2.2.2.2.2.2.1) (es274.2.2.2.2.2.2.2.2.2.2.2.2.1) (fun j => (h_upo es274.2.2.2.2.2.2.2.2.2.2.2.2.2 rfl j).trans ((h_upo es271.2.2.2.2.2.2.2.2.2.2.2.2.2 rfl j).trans ((h_upi es269.2.2.2.2.2.2.2.2.2.2.2.2.2 j).trans (congrArg (fun z => if j = (σ1 66 8) then a1 else z) ((Gsq210 67 j rfl)))))) (fun j => (h_upo es274.2.2.2.2.2.2.2.2.2.2.2.2.2 rfl j).trans ((h_upi es271.2.2.2.2.2.2.2.2.2.2.2.2.2 j).trans (congrArg (fun z => if j = (σ1 66 8) then (-4) else z) ((h_upo es269.2.2.2.2.2.2.2.2.2.2.2.2.2 rfl j).trans ((Gsq210 68 j rfl)))))) (fun j => (h_upo es274.2.2.2.2.2.2.2.2.2.2.2.2.2 rfl j).trans ((h_upo es271.2.2.2.2.2.2.2.2.2.2.2.2.2 rfl j).trans ((h_upo es269.2.2.2.2.2.2.2.2.2.2.2.2.2 rfl j).trans ((Gsq210 70 j rfl))))) (fun j => (h_upo es274.2.2.2.2.2.2.2.2.2.2.2.2.2 rfl j).trans ((h_upo es271.2.2.2.2.2.2.2.2.2.2.2.2.2 rfl j).trans ((h_upo es269.2.2.2.2.2.2.2.2.2.2.2.2.2 rfl j).trans ((Gsq210 71 j rfl))))) (fun j => (h_upo es274.2.2.2.2.2.2.2.2.2.2.2.2.2 rfl j).trans ((h_upo es271.2.2.2.2.2.2.2.2.2.2.2.2.2 rfl j).trans ((h_upo es269.2.2.2.2.2.2.2.2.2.2.2.2.2 rfl j).trans ((Gsq210 73 j rfl))))) (fun j => (h_upo es274.2.2.2.2.2.2.2.2.2.2.2.2.2 rfl j).trans ((h_upo es271.2.2.2.2.2.2.2.2.2.2.2.2.2 rfl j).trans ((h_upo es269.2.2.2.2.2.2.2.2.2.2.2.2.2 rfl j).trans ((Gsq210 74 j rfl))))) (fun j => (h_upo es274.2.2.2.2.2.2.2.2.2.2.2.2.2 rfl j).trans ((h_upo es271.2.2.2.2.2.2.2.2.2.2.2.2.2 rfl j).trans ((h_upo es269.2.2.2.2.2.2.2.2.2.2.2.2.2 rfl j).trans ((Gsq210 75 j rfl))))) (fun j => (h_upo es274.2.2.2.2.2.2.2.2.2.2.2.2.2 rfl j).trans ((h_upo es271.2.2.2.2.2.2.2.2.2.2.2.2.2 rfl j).trans ((h_upo es269.2.2.2.2.2.2.2.2.2.2.2.2.2 rfl j).trans ((Gsq210 76 j rfl))))) (fun j => (h_upo es274.2.2.2.2.2.2.2.2.2.2.2.2.2 rfl j).trans ((h_upo es271.2.2.2.2.2.2.2.2.2.2.2.2.2 rfl j).trans ((h_upo es269.2.2.2.2.2.2.2.2.2.2.2.2.2 rfl j).trans ((Gsq210 77 j rfl))))) (fun j => (h_upo es274.2.2.2.2.2.2.2.2.2.2.2.2.2 rfl j).trans ((h_upo es271.2.2.2.2.2.2.2.2.2.2.2.2.2 rfl j).trans ((h_upo es269.2.2.2.2.2.2.2.2.2.2.2.2.2 rfl j).trans ((Gsq210 78 j rfl))))) (es257.2.2.2.2.2.2.1) (es257.2.2.2.2.2.2.2.1) (es257.2.2.2.2.2.2.2.2.1) (es257.2.2.2.2.2.2.2.2.2.1) (es257.2.2.2.2.2.2.2.2.2.2.1) (fun j => (h_upo es257.2.2.2.2.2.2.2.2.2.2.2.2.2.2 rfl j).trans ((h_upi es252.2.2.2.2.2.2.2.2.2.2.2.2.2.2 j).trans (congrArg (fun z => if j = (σ2 98 5) then c1 else z) ((Gtq210 101 j rfl).trans ((h_upo es209.2.2.2.2.2.2.2.2.2.2.2.2.2.2 rfl j)))))) (r_one0 pr12 (by omega) (by omega) (by omega) (by omega) (by omega) (by omega) (by omega))) (Or.inr (Or.inr (Or.inl ⟨by omega, by omega, by omega, by omega, by omega, by omega⟩))) _ _ (h_al_ok ⟨rfl, trivial⟩ hlw258) hRw258)
        · show h_T g_P (g_Y ns) 154 132 [(0, .ref 98), (1, .int y1)] [] tq210 _
          refine h_aload_n (pc' := 133) rfl rfl rfl ?_
          refine h_getI (pc' := 136) (v := tq210 98 13) rfl rfl rfl rfl rfl rfl (fun z275 hz275 => ?_)
          have tz275 := tf_98_13 Itq210
          refine h_zle (tg := 140) (pc' := 139) rfl rfl rfl hz275 (fun c276 => ?_) (fun c276 => absurd c276 (by omega))
          clear hz275
          refine h_aload_n (pc' := 141) rfl rfl rfl ?_
          refine h_iload_n (pc' := 142) rfl rfl rfl ?_
          refine d_call (g_inj ns) (pc' := 145) (m := 153) (M := [(0, .ref 98), (1, .int y1)]) (rest := []) ⟨false, _, _, _, _, _, _, rfl, rfl, rfl, rfl, rfl, rfl, rfl⟩ (fun lv277 hlv277 => ?_)
          refine h_iload_n (pc' := 1) rfl rfl rfl ?_
          refine h_iconst (pc' := 2) (x := (Int32.ofInt 3)) rfl rfl rfl ?_
          refine h_cgt (tg := 61) (pc' := 5) rfl rfl rfl hy1 ci_3 (fun c278 => absurd c278 (by omega)) (fun c278 => ?_)
          refine h_aload_n (pc' := 6) rfl rfl rfl ?_
          refine h_getR (pc' := 9) rfl rfl rfl rfl rfl ?_
          refine h_aload_n (pc' := 10) rfl rfl rfl ?_
          refine h_getI (pc' := 13) (v := σ2 98 5) rfl rfl rfl rfl rfl etq210_6 (fun z279 hz279 => ?_)
          refine h_iload_n (pc' := 14) rfl rfl rfl ?_
          refine h_iast (pc' := 15) rfl rfl rfl rfl hz279 (by omega) (by omega) hy1 (h_fgt (E := fun s => s 98 15 = tq210 98 15 ∧ s 98 16 = tq210 98 16 ∧ s 98 17 = tq210 98 17 ∧ s 98 18 = tq210 98 18 ∧ s 98 13 = tq210 98 13 ∧ s 98 14 = tq210 98 14 ∧ s 98 5 = σ2 98 5 ∧ s 98 6 = σ2 98 6 ∧ s 98 7 = 0 ∧ s 98 8 = σ2 98 8 ∧ s 98 9 = σ2 98 9 ∧ s 101 18 = σ2 101 18 ∧ s 101 25 = σ2 101 25 ∧ s 101 43 = σ2 101 43 ∧ s = h_up tq210 101 (σ2 98 5) c1) _ (ip_101_0 Itq210 (by omega) (by omega)) (Ftq210.up rfl) ⟨rfl, rfl, rfl, rfl, rfl, rfl, etq210_6, etq210_7, etq210_8, etq210_9, etq210_10, h_up_n2 (by omega) etq210_11, h_up_n2 (by omega) etq210_12, h_up_n2 (by omega) etq210_13, rfl⟩ (fun s280 Is280 Fs280 (es280 : s280 98 15 = tq210 98 15 ∧ s280 98 16 = tq210 98 16 ∧ s280 98 17 = tq210 98 17 ∧ s280 98 18 = tq210 98 18 ∧ s280 98 13 = tq210 98 13 ∧ s280 98 14 = tq210 98 14 ∧ s280 98 5 = σ2 98 5 ∧ s280 98 6 = σ2 98 6 ∧ s280 98 7 = 0 ∧ s280 98 8 = σ2 98 8 ∧ s280 98 9 = σ2 98 9 ∧ s280 101 18 = σ2 101 18 ∧ s280 101 25 = σ2 101 25 ∧ s280 101 43 = σ2 101 43 ∧ s280 = h_up tq210 101 (σ2 98 5) c1) => ?_))
          clear hz279
          refine h_aload_n (pc' := 16) rfl rfl rfl ?_
          refine h_getI (pc' := 19) (v := tq210 98 17) rfl rfl rfl rfl rfl es280.2.2.1 (fun z281 hz281 => ?_)
          have tz281 := tf_98_17 Itq210
          refine h_iconst (pc' := 20) (x := (Int32.ofInt 2)) rfl rfl rfl ?_
          refine h_cne (tg := 48) (pc' := 23) rfl rfl rfl hz281 ci_2 (fun c282 => absurd c282 (by omega)) (fun c282 => ?_)
          clear hz281
          refine h_aload_n (pc' := 24) rfl rfl rfl ?_
          refine h_getR (pc' := 27) rfl rfl rfl rfl rfl ?_
          refine h_bipush (pc' := 29) (x := (Int32.ofInt 6)) rfl rfl cb_6 ?_
          refine h_aload_n (pc' := 30) rfl rfl rfl ?_
          refine h_getI (pc' := 33) (v := σ2 98 5) rfl rfl rfl rfl rfl es280.2.2.2.2.2.2.1 (fun z283 hz283 => ?_)
          refine h_iadd (pc' := 34) rfl rfl ci_6 hz283 rfl (by omega) (by omega) (fun z284 hz284 => ?_)
          clear hz283
          refine h_aload_n (pc' := 35) rfl rfl rfl ?_
          refine h_iconst (pc' := 36) (x := (Int32.ofInt 0)) rfl rfl rfl ?_
          refine h_aload_n (pc' := 37) rfl rfl rfl ?_
          refine h_getI (pc' := 40) (v := σ2 98 5) rfl rfl rfl rfl rfl es280.2.2.2.2.2.2.1 (fun z285 hz285 => ?_)
          refine h_iconst (pc' := 41) (x := (Int32.ofInt 1)) rfl rfl rfl ?_
          refine h_isub (pc' := 42) rfl rfl hz285 ci_1 rfl (by omega) (by omega) (fun z286 hz286 => ?_)
          clear hz285
          refine d_toL (g_inj ns) hlw6 hRq210 (fun lvw287 memw287 hlw287 hRw287 => ?_)
          show h_T g_P (g_Y ns) 57 20 [(0, .ref 63), (1, .int (Int32.ofInt 0))] [] sq210 _
          refine h_vret rfl rfl (d_retn hlv4 ?_)
          refine h_aload_n (pc' := 22) rfl rfl rfl ?_
          refine h_call (sp := false) (pc' := 25) (M := [(0, .ref 63)]) rfl rfl rfl rfl rfl rfl rfl rfl ?_
          refine h_aload_n (pc' := 1) rfl rfl rfl ?_
          refine h_getI (pc' := 4) (v := sq210 63 2) rfl rfl rfl rfl rfl rfl (fun z288 hz288 => ?_)
          have tz288 := tf_63_2 Isq210
          refine h_zne (tg := 22) (pc' := 7) rfl rfl rfl hz288 (fun c289 => absurd c289 (by omega)) (fun c289 => ?_)
          clear hz288
          refine h_aload_n (pc' := 8) rfl rfl rfl ?_
          refine h_getR (pc' := 11) rfl rfl rfl rfl rfl ?_
          refine h_getI (pc' := 14) (v := sq210 64 3) rfl rfl rfl rfl rfl rfl (fun z290 hz290 => ?_)
          have tz290 := tf_64_3 Isq210
          refine h_iconst (pc' := 15) (x := (Int32.ofInt 2)) rfl rfl rfl ?_
          refine h_cne (tg := 22) (pc' := 18) rfl rfl rfl hz290 ci_2 (fun c291 => absurd c291 (by omega)) (fun c291 => ?_)
          clear hz290
          refine h_iconst (pc' := 19) (x := (Int32.ofInt 1)) rfl rfl rfl ?_
          refine h_goto (pc' := 23) rfl rfl ?_
          refine h_zret rfl rfl ci_1 (by omega) (h_Kv ?_)
          refine h_zeq (tg := 44) (pc' := 28) rfl rfl rfl ci_1 (fun c292 => absurd c292 (by omega)) (fun c292 => ?_)
          refine h_aload_n (pc' := 29) rfl rfl rfl ?_
          refine h_aload_n (pc' := 30) rfl rfl rfl ?_
          refine h_getR (pc' := 33) rfl rfl rfl rfl rfl ?_
          refine h_getI (pc' := 36) (v := σ1 66 8) rfl rfl rfl rfl rfl esq210_7 (fun z293 hz293 => ?_)
          refine h_iconst (pc' := 37) (x := (Int32.ofInt 1)) rfl rfl rfl ?_
          refine h_isub (pc' := 38) rfl rfl hz293 ci_1 rfl (by omega) (by omega) (fun z294 hz294 => ?_)
          clear hz293
          refine d_toM (g_inj ns) hlw287 hRw287 (fun lvw295 memw295 hlw295 hRw295 => ?_)
          show h_T g_P (g_Y ns) 153 42 [(0, .ref 98), (1, .int y1)] [.int z286, .int (Int32.ofInt 0), .ref 98, .int z284, .ref 101] s280 _
          refine d_pcall (g_inj ns) (m1 := 58) (pc1' := 41) (M1 := [(0, .ref 63), (1, .int z294)]) (rest1 := []) (m2 := 149) (pc2' := 45) (M2 := [(0, .ref 98), (1, .int (Int32.ofInt 0)), (2, .int z286)]) (rest2 := [.int z284, .ref 101]) ⟨false, _, _, _, _, _, _, rfl, rfl, rfl, rfl, rfl, rfl, rfl⟩ ⟨false, _, _, _, _, _, _, rfl, rfl, rfl, rfl, rfl, rfl, rfl⟩ hRw295 ?_
          refine pp_num Isq210 Is280 (hTL.fr (Fsq210.mono rfl) (Fs280.mono rfl)) z294 _ hz294 z286 _ hz286 (by omega) (by omega) (by omega) (by omega) (by omega) (by omega) (Or.inr (Or.inr (Or.inr (Or.inl ⟨by omega, by omega, by omega, by omega, by omega, by omega, by omega, by omega⟩)))) (fun rq296x bq296x hq296x rq296m bq296m hq296m sq296 tq296 Isq296 Itq296 Gsq296 Gtq296 yq296_0 yq296_1 yq296_2 yq296_3 yq296_4 pcq296 memq296 hRq296 => ?_)
          have Fsq296 := (Gsq296.mono (B := k_px) rfl).tr Fsq210
          have Ftq296 := (Gtq296.mono (B := k_pm) rfl).tr Fs280
          have esq296_6 : sq296 64 1 = σ1 64 1 := (Gsq296 64 1 rfl).trans esq210_6
          have esq296_7 : sq296 66 8 = σ1 66 8 := (Gsq296 66 8 rfl).trans esq210_7
          have esq296_8 : sq296 66 9 = σ1 66 9 := (Gsq296 66 9 rfl).trans esq210_8
          have esq296_9 : sq296 66 10 = σ1 66 10 := (Gsq296 66 10 rfl).trans esq210_9
          have esq296_10 : sq296 69 2 = σ1 69 2 := (Gsq296 69 2 rfl).trans esq210_10
          have esq296_11 : sq296 72 2 = σ1 72 2 := (Gsq296 72 2 rfl).trans esq210_11
          have esq296_12 : sq296 63 5 = σ1 63 5 := (Gsq296 63 5 rfl).trans esq210_12
          have etq296_6 : tq296 98 5 = σ2 98 5 := (Gtq296 98 5 rfl).trans es280.2.2.2.2.2.2.1
          have etq296_7 : tq296 98 6 = σ2 98 6 := (Gtq296 98 6 rfl).trans es280.2.2.2.2.2.2.2.1
          have etq296_8 : tq296 98 7 = 0 := (Gtq296 98 7 rfl).trans es280.2.2.2.2.2.2.2.2.1
          have etq296_9 : tq296 98 8 = σ2 98 8 := (Gtq296 98 8 rfl).trans es280.2.2.2.2.2.2.2.2.2.1
          have etq296_10 : tq296 98 9 = σ2 98 9 := (Gtq296 98 9 rfl).trans es280.2.2.2.2.2.2.2.2.2.2.1
          have etq296_11 : tq296 101 18 = σ2 101 18 := (Gtq296 101 18 rfl).trans es280.2.2.2.2.2.2.2.2.2.2.2.1
          have etq296_12 : tq296 101 25 = σ2 101 25 := (Gtq296 101 25 rfl).trans es280.2.2.2.2.2.2.2.2.2.2.2.2.1
          have etq296_13 : tq296 101 43 = σ2 101 43 := (Gtq296 101 43 rfl).trans es280.2.2.2.2.2.2.2.2.2.2.2.2.2.1
          rcases pcq296 with pcq296 | pcq296 | pcq296 | pcq296 | pcq296
          · show h_T g_P (g_Y ns) 153 45 [(0, .ref 98), (1, .int y1)] [.int rq296m, .int z284, .ref 101] tq296 _
            clear hz286 hz294
            refine h_iconst (pc' := 46) (x := (Int32.ofInt 1)) rfl rfl rfl ?_
            refine h_iadd (pc' := 47) rfl rfl hq296m ci_1 rfl (by have g0 := h_rgv hq296m; omega) (by have g0 := h_rgv hq296m; omega) (fun z297 hz297 => ?_)
            clear hq296m
            refine h_iast (pc' := 48) rfl rfl rfl rfl hz284 (by omega) (by omega) hz297 (h_fgt (E := fun s => s 98 15 = tq296 98 15 ∧ s 98 16 = tq296 98 16 ∧ s 98 17 = tq296 98 17 ∧ s 98 18 = tq296 98 18 ∧ s 98 13 = tq296 98 13 ∧ s 98 14 = tq296 98 14 ∧ s 98 5 = σ2 98 5 ∧ s 98 6 = σ2 98 6 ∧ s 98 7 = 0 ∧ s 98 8 = σ2 98 8 ∧ s 98 9 = σ2 98 9 ∧ s 101 18 = σ2 101 18 ∧ s 101 25 = σ2 101 25 ∧ s 101 43 = σ2 101 43 ∧ s = h_up tq296 101 (6 + (σ2 98 5)) (bq296m + 1)) _ (ip_101_1 Itq296 (by omega) (by omega)) (Ftq296.up rfl) ⟨rfl, rfl, rfl, rfl, rfl, rfl, etq296_6, etq296_7, etq296_8, etq296_9, etq296_10, h_up_n2 (by omega) etq296_11, h_up_n2 (by omega) etq296_12, h_up_n2 (by omega) etq296_13, rfl⟩ (fun s298 Is298 Fs298 (es298 : s298 98 15 = tq296 98 15 ∧ s298 98 16 = tq296 98 16 ∧ s298 98 17 = tq296 98 17 ∧ s298 98 18 = tq296 98 18 ∧ s298 98 13 = tq296 98 13 ∧ s298 98 14 = tq296 98 14 ∧ s298 98 5 = σ2 98 5 ∧ s298 98 6 = σ2 98 6 ∧ s298 98 7 = 0 ∧ s298 98 8 = σ2 98 8 ∧ s298 98 9 = σ2 98 9 ∧ s298 101 18 = σ2 101 18 ∧ s298 101 25 = σ2 101 25 ∧ s298 101 43 = σ2 101 43 ∧ s298 = h_up tq296 101 (6 + (σ2 98 5)) (bq296m + 1)) => ?_))
            clear hz284 hz297
            refine h_aload_n (pc' := 49) rfl rfl rfl ?_
            refine h_dup (pc' := 50) rfl rfl rfl ?_
            refine h_getI (pc' := 53) (v := σ2 98 5) rfl rfl rfl rfl rfl es298.2.2.2.2.2.2.1 (fun z299 hz299 => ?_)
            refine h_iconst (pc' := 54) (x := (Int32.ofInt 1)) rfl rfl rfl ?_
            refine h_iadd (pc' := 55) rfl rfl hz299 ci_1 rfl (by omega) (by omega) (fun z300 hz300 => ?_)
            clear hz299
            refine h_put (pc' := 58) rfl rfl rfl rfl rfl rfl hz300 rfl (h_fgt (E := fun s => s 98 15 = tq296 98 15 ∧ s 98 16 = tq296 98 16 ∧ s 98 17 = tq296 98 17 ∧ s 98 18 = tq296 98 18 ∧ s 98 13 = tq296 98 13 ∧ s 98 14 = tq296 98 14 ∧ s 98 5 = ((σ2 98 5) + 1) ∧ s 98 6 = σ2 98 6 ∧ s 98 7 = 0 ∧ s 98 8 = σ2 98 8 ∧ s 98 9 = σ2 98 9 ∧ s 101 18 = σ2 101 18 ∧ s 101 25 = σ2 101 25 ∧ s 101 43 = σ2 101 43 ∧ s = h_up s298 98 5 ((σ2 98 5) + 1)) _ (if_98_5 Is298 (by omega)) (Fs298.up rfl) ⟨es298.1, es298.2.1, es298.2.2.1, es298.2.2.2.1, es298.2.2.2.2.1, es298.2.2.2.2.2.1, rfl, es298.2.2.2.2.2.2.2.1, es298.2.2.2.2.2.2.2.2.1, es298.2.2.2.2.2.2.2.2.2.1, es298.2.2.2.2.2.2.2.2.2.2.1, es298.2.2.2.2.2.2.2.2.2.2.2.1, es298.2.2.2.2.2.2.2.2.2.2.2.2.1, es298.2.2.2.2.2.2.2.2.2.2.2.2.2.1, rfl⟩ (fun s301 Is301 Fs301 (es301 : s301 98 15 = tq296 98 15 ∧ s301 98 16 = tq296 98 16 ∧ s301 98 17 = tq296 98 17 ∧ s301 98 18 = tq296 98 18 ∧ s301 98 13 = tq296 98 13 ∧ s301 98 14 = tq296 98 14 ∧ s301 98 5 = ((σ2 98 5) + 1) ∧ s301 98 6 = σ2 98 6 ∧ s301 98 7 = 0 ∧ s301 98 8 = σ2 98 8 ∧ s301 98 9 = σ2 98 9 ∧ s301 101 18 = σ2 101 18 ∧ s301 101 25 = σ2 101 25 ∧ s301 101 43 = σ2 101 43 ∧ s301 = h_up s298 98 5 ((σ2 98 5) + 1)) => ?_))
            refine h_goto (pc' := 178) rfl rfl ?_
            refine h_vret rfl rfl (d_retn hlv277 ?_)
            refine d_toL (g_inj ns) hlw295 hRq296 (fun lvw302 memw302 hlw302 hRw302 => ?_)
            show h_T g_P (g_Y ns) 59 41 [(0, .ref 63), (1, .int x1)] [.int rq296x] sq296 _
            refine h_goto (pc' := 46) rfl rfl ?_
            refine h_istore_n (pc' := 47) (M := [(2, .int rq296x), (0, .ref 63), (1, .int x1)]) rfl rfl rfl rfl ?_
            refine h_aload_n (pc' := 48) rfl rfl rfl ?_
            refine h_getI (pc' := 51) (v := sq296 63 2) rfl rfl rfl rfl rfl rfl (fun z303 hz303 => ?_)
            have tz303 := tf_63_2 Isq296
            refine h_zne (tg := 63) (pc' := 54) rfl rfl rfl hz303 (fun c304 => ?_) (fun c304 => absurd c304 (by omega))
            clear hz303
            refine h_vret rfl rfl (d_retn hlv1 ?_)
            clear hq296x
            exact h_wk [(0, .ref 63)] ⟨rfl, trivial⟩ (kx0 _ _ Isq296 Is301 Fsq296 Fs301 (by omega) (by omega) (by omega) (by omega) (by omega) (fun h => absurd h (by omega)) (Or.inl ⟨by omega, by omega, by omega, by omega⟩) _ _ (h_al_ok ⟨rfl, trivial⟩ hlw302) hRw302)
          · show h_T g_P (g_Y ns) 153 45 [(0, .ref 98), (1, .int y1)] [.int rq296m, .int z284, .ref 101] tq296 _
            clear hz286 hz294
            refine h_iconst (pc' := 46) (x := (Int32.ofInt 1)) rfl rfl rfl ?_
            refine h_iadd (pc' := 47) rfl rfl hq296m ci_1 rfl (by have g0 := h_rgv hq296m; omega) (by have g0 := h_rgv hq296m; omega) (fun z305 hz305 => ?_)
            clear hq296m
            refine h_iast (pc' := 48) rfl rfl rfl rfl hz284 (by omega) (by omega) hz305 (h_fgt (E := fun s => s 98 15 = tq296 98 15 ∧ s 98 16 = tq296 98 16 ∧ s 98 17 = tq296 98 17 ∧ s 98 18 = tq296 98 18 ∧ s 98 13 = tq296 98 13 ∧ s 98 14 = tq296 98 14 ∧ s 98 5 = σ2 98 5 ∧ s 98 6 = σ2 98 6 ∧ s 98 7 = 0 ∧ s 98 8 = σ2 98 8 ∧ s 98 9 = σ2 98 9 ∧ s 101 18 = σ2 101 18 ∧ s 101 25 = σ2 101 25 ∧ s 101 43 = σ2 101 43 ∧ s = h_up tq296 101 (6 + (σ2 98 5)) (bq296m + 1)) _ (ip_101_1 Itq296 (by omega) (by omega)) (Ftq296.up rfl) ⟨rfl, rfl, rfl, rfl, rfl, rfl, etq296_6, etq296_7, etq296_8, etq296_9, etq296_10, h_up_n2 (by omega) etq296_11, h_up_n2 (by omega) etq296_12, h_up_n2 (by omega) etq296_13, rfl⟩ (fun s306 Is306 Fs306 (es306 : s306 98 15 = tq296 98 15 ∧ s306 98 16 = tq296 98 16 ∧ s306 98 17 = tq296 98 17 ∧ s306 98 18 = tq296 98 18 ∧ s306 98 13 = tq296 98 13 ∧ s306 98 14 = tq296 98 14 ∧ s306 98 5 = σ2 98 5 ∧ s306 98 6 = σ2 98 6 ∧ s306 98 7 = 0 ∧ s306 98 8 = σ2 98 8 ∧ s306 98 9 = σ2 98 9 ∧ s306 101 18 = σ2 101 18 ∧ s306 101 25 = σ2 101 25 ∧ s306 101 43 = σ2 101 43 ∧ s306 = h_up tq296 101 (6 + (σ2 98 5)) (bq296m + 1)) => ?_))
            clear hz284 hz305
            refine h_aload_n (pc' := 49) rfl rfl rfl ?_
            refine h_dup (pc' := 50) rfl rfl rfl ?_
            refine h_getI (pc' := 53) (v := σ2 98 5) rfl rfl rfl rfl rfl es306.2.2.2.2.2.2.1 (fun z307 hz307 => ?_)
            refine h_iconst (pc' := 54) (x := (Int32.ofInt 1)) rfl rfl rfl ?_
            refine h_iadd (pc' := 55) rfl rfl hz307 ci_1 rfl (by omega) (by omega) (fun z308 hz308 => ?_)
            clear hz307
            refine h_put (pc' := 58) rfl rfl rfl rfl rfl rfl hz308 rfl (h_fgt (E := fun s => s 98 15 = tq296 98 15 ∧ s 98 16 = tq296 98 16 ∧ s 98 17 = tq296 98 17 ∧ s 98 18 = tq296 98 18 ∧ s 98 13 = tq296 98 13 ∧ s 98 14 = tq296 98 14 ∧ s 98 5 = ((σ2 98 5) + 1) ∧ s 98 6 = σ2 98 6 ∧ s 98 7 = 0 ∧ s 98 8 = σ2 98 8 ∧ s 98 9 = σ2 98 9 ∧ s 101 18 = σ2 101 18 ∧ s 101 25 = σ2 101 25 ∧ s 101 43 = σ2 101 43 ∧ s = h_up s306 98 5 ((σ2 98 5) + 1)) _ (if_98_5 Is306 (by omega)) (Fs306.up rfl) ⟨es306.1, es306.2.1, es306.2.2.1, es306.2.2.2.1, es306.2.2.2.2.1, es306.2.2.2.2.2.1, rfl, es306.2.2.2.2.2.2.2.1, es306.2.2.2.2.2.2.2.2.1, es306.2.2.2.2.2.2.2.2.2.1, es306.2.2.2.2.2.2.2.2.2.2.1, es306.2.2.2.2.2.2.2.2.2.2.2.1, es306.2.2.2.2.2.2.2.2.2.2.2.2.1, es306.2.2.2.2.2.2.2.2.2.2.2.2.2.1, rfl⟩ (fun s309 Is309 Fs309 (es309 : s309 98 15 = tq296 98 15 ∧ s309 98 16 = tq296 98 16 ∧ s309 98 17 = tq296 98 17 ∧ s309 98 18 = tq296 98 18 ∧ s309 98 13 = tq296 98 13 ∧ s309 98 14 = tq296 98 14 ∧ s309 98 5 = ((σ2 98 5) + 1) ∧ s309 98 6 = σ2 98 6 ∧ s309 98 7 = 0 ∧ s309 98 8 = σ2 98 8 ∧ s309 98 9 = σ2 98 9 ∧ s309 101 18 = σ2 101 18 ∧ s309 101 25 = σ2 101 25 ∧ s309 101 43 = σ2 101 43 ∧ s309 = h_up s306 98 5 ((σ2 98 5) + 1)) => ?_))
            refine h_goto (pc' := 178) rfl rfl ?_
            refine h_vret rfl rfl (d_retn hlv277 ?_)
            refine d_toL (g_inj ns) hlw295 hRq296 (fun lvw310 memw310 hlw310 hRw310 => ?_)
            show h_T g_P (g_Y ns) 59 41 [(0, .ref 63), (1, .int x1)] [.int rq296x] sq296 _
            refine h_goto (pc' := 46) rfl rfl ?_
            refine h_istore_n (pc' := 47) (M := [(2, .int rq296x), (0, .ref 63), (1, .int x1)]) rfl rfl rfl rfl ?_
            refine h_aload_n (pc' := 48) rfl rfl rfl ?_
            refine h_getI (pc' := 51) (v := sq296 63 2) rfl rfl rfl rfl rfl rfl (fun z311 hz311 => ?_)
            have tz311 := tf_63_2 Isq296
            refine h_zne (tg := 63) (pc' := 54) rfl rfl rfl hz311 (fun c312 => absurd c312 (by omega)) (fun c312 => ?_)
            clear hz311
            refine h_aload_n (pc' := 55) rfl rfl rfl ?_
            refine h_getR (pc' := 58) rfl rfl rfl rfl rfl ?_
            refine h_iload_n (pc' := 59) rfl rfl rfl ?_
            refine h_iload_n (pc' := 60) rfl rfl rfl ?_
            refine h_call (sp := false) (pc' := 63) (M := [(0, .ref 66), (1, .int x1), (2, .int rq296x)]) rfl rfl rfl rfl rfl rfl rfl rfl ?_
            refine h_aload_n (pc' := 1) rfl rfl rfl ?_
            refine h_getI (pc' := 4) (v := σ1 66 8) rfl rfl rfl rfl rfl esq296_7 (fun z313 hz313 => ?_)
            refine h_bipush (pc' := 6) (x := (Int32.ofInt 6)) rfl rfl cb_6 ?_
            refine h_cge (tg := 39) (pc' := 9) rfl rfl rfl hz313 ci_6 (fun c314 => absurd c314 (by omega)) (fun c314 => ?_)
            clear hz313
            refine h_aload_n (pc' := 10) rfl rfl rfl ?_
            refine h_getR (pc' := 13) rfl rfl rfl rfl rfl ?_
            refine h_aload_n (pc' := 14) rfl rfl rfl ?_
            refine h_getI (pc' := 17) (v := σ1 66 8) rfl rfl rfl rfl rfl esq296_7 (fun z315 hz315 => ?_)
            refine h_iload_n (pc' := 18) rfl rfl rfl ?_
            refine h_iast (pc' := 19) rfl rfl rfl rfl hz315 (by omega) (by omega) hx1 (h_fgt (E := fun s => s 64 2 = sq296 64 2 ∧ s 64 4 = sq296 64 4 ∧ s 64 3 = sq296 64 3 ∧ s 64 5 = sq296 64 5 ∧ s 63 2 = sq296 63 2 ∧ s 63 3 = sq296 63 3 ∧ s 64 1 = σ1 64 1 ∧ s 66 8 = σ1 66 8 ∧ s 66 9 = σ1 66 9 ∧ s 66 10 = σ1 66 10 ∧ s 69 2 = σ1 69 2 ∧ s 72 2 = σ1 72 2 ∧ s 63 5 = σ1 63 5 ∧ s = h_up sq296 67 (σ1 66 8) a1) _ (in_67 Isq296 (by omega)) (Fsq296.up rfl) ⟨rfl, rfl, rfl, rfl, rfl, rfl, esq296_6, esq296_7, esq296_8, esq296_9, esq296_10, esq296_11, esq296_12, rfl⟩ (fun s316 Is316 Fs316 (es316 : s316 64 2 = sq296 64 2 ∧ s316 64 4 = sq296 64 4 ∧ s316 64 3 = sq296 64 3 ∧ s316 64 5 = sq296 64 5 ∧ s316 63 2 = sq296 63 2 ∧ s316 63 3 = sq296 63 3 ∧ s316 64 1 = σ1 64 1 ∧ s316 66 8 = σ1 66 8 ∧ s316 66 9 = σ1 66 9 ∧ s316 66 10 = σ1 66 10 ∧ s316 69 2 = σ1 69 2 ∧ s316 72 2 = σ1 72 2 ∧ s316 63 5 = σ1 63 5 ∧ s316 = h_up sq296 67 (σ1 66 8) a1) => ?_))
            clear hz315
            refine h_aload_n (pc' := 20) rfl rfl rfl ?_
            refine h_getR (pc' := 23) rfl rfl rfl rfl rfl ?_
            refine h_aload_n (pc' := 24) rfl rfl rfl ?_
            refine h_getI (pc' := 27) (v := σ1 66 8) rfl rfl rfl rfl rfl es316.2.2.2.2.2.2.2.1 (fun z317 hz317 => ?_)
            refine h_iload_n (pc' := 28) rfl rfl rfl ?_
            refine h_iast (pc' := 29) rfl rfl rfl rfl hz317 (by omega) (by omega) hq296x (h_fgt (E := fun s => s 64 2 = sq296 64 2 ∧ s 64 4 = sq296 64 4 ∧ s 64 3 = sq296 64 3 ∧ s 64 5 = sq296 64 5 ∧ s 63 2 = sq296 63 2 ∧ s 63 3 = sq296 63 3 ∧ s 64 1 = σ1 64 1 ∧ s 66 8 = σ1 66 8 ∧ s 66 9 = σ1 66 9 ∧ s 66 10 = σ1 66 10 ∧ s 69 2 = σ1 69 2 ∧ s 72 2 = σ1 72 2 ∧ s 63 5 = σ1 63 5 ∧ s = h_up s316 68 (σ1 66 8) bq296x) _ (in_68 Is316 (by omega)) (Fs316.up rfl) ⟨es316.1, es316.2.1, es316.2.2.1, es316.2.2.2.1, es316.2.2.2.2.1, es316.2.2.2.2.2.1, es316.2.2.2.2.2.2.1, es316.2.2.2.2.2.2.2.1, es316.2.2.2.2.2.2.2.2.1, es316.2.2.2.2.2.2.2.2.2.1, es316.2.2.2.2.2.2.2.2.2.2.1, es316.2.2.2.2.2.2.2.2.2.2.2.1, es316.2.2.2.2.2.2.2.2.2.2.2.2.1, rfl⟩ (fun s318 Is318 Fs318 (es318 : s318 64 2 = sq296 64 2 ∧ s318 64 4 = sq296 64 4 ∧ s318 64 3 = sq296 64 3 ∧ s318 64 5 = sq296 64 5 ∧ s318 63 2 = sq296 63 2 ∧ s318 63 3 = sq296 63 3 ∧ s318 64 1 = σ1 64 1 ∧ s318 66 8 = σ1 66 8 ∧ s318 66 9 = σ1 66 9 ∧ s318 66 10 = σ1 66 10 ∧ s318 69 2 = σ1 69 2 ∧ s318 72 2 = σ1 72 2 ∧ s318 63 5 = σ1 63 5 ∧ s318 = h_up s316 68 (σ1 66 8) bq296x) => ?_))
            clear hz317
            refine h_aload_n (pc' := 30) rfl rfl rfl ?_
            refine h_dup (pc' := 31) rfl rfl rfl ?_
            refine h_getI (pc' := 34) (v := σ1 66 8) rfl rfl rfl rfl rfl es318.2.2.2.2.2.2.2.1 (fun z319 hz319 => ?_)
            refine h_iconst (pc' := 35) (x := (Int32.ofInt 1)) rfl rfl rfl ?_
            refine h_iadd (pc' := 36) rfl rfl hz319 ci_1 rfl (by omega) (by omega) (fun z320 hz320 => ?_)
            clear hz319
            refine h_put (pc' := 39) rfl rfl rfl rfl rfl rfl hz320 rfl (h_fgt (E := fun s => s 64 2 = sq296 64 2 ∧ s 64 4 = sq296 64 4 ∧ s 64 3 = sq296 64 3 ∧ s 64 5 = sq296 64 5 ∧ s 63 2 = sq296 63 2 ∧ s 63 3 = sq296 63 3 ∧ s 64 1 = σ1 64 1 ∧ s 66 8 = ((σ1 66 8) + 1) ∧ s 66 9 = σ1 66 9 ∧ s 66 10 = σ1 66 10 ∧ s 69 2 = σ1 69 2 ∧ s 72 2 = σ1 72 2 ∧ s 63 5 = σ1 63 5 ∧ s = h_up s318 66 8 ((σ1 66 8) + 1)) _ (if_66_8 Is318 (by omega)) (Fs318.up rfl) ⟨es318.1, es318.2.1, es318.2.2.1, es318.2.2.2.1, es318.2.2.2.2.1, es318.2.2.2.2.2.1, es318.2.2.2.2.2.2.1, rfl, es318.2.2.2.2.2.2.2.2.1, es318.2.2.2.2.2.2.2.2.2.1, es318.2.2.2.2.2.2.2.2.2.2.1, es318.2.2.2.2.2.2.2.2.2.2.2.1, es318.2.2.2.2.2.2.2.2.2.2.2.2.1, rfl⟩ (fun s321 Is321 Fs321 (es321 : s321 64 2 = sq296 64 2 ∧ s321 64 4 = sq296 64 4 ∧ s321 64 3 = sq296 64 3 ∧ s321 64 5 = sq296 64 5 ∧ s321 63 2 = sq296 63 2 ∧ s321 63 3 = sq296 63 3 ∧ s321 64 1 = σ1 64 1 ∧ s321 66 8 = ((σ1 66 8) + 1) ∧ s321 66 9 = σ1 66 9 ∧ s321 66 10 = σ1 66 10 ∧ s321 69 2 = σ1 69 2 ∧ s321 72 2 = σ1 72 2 ∧ s321 63 5 = σ1 63 5 ∧ s321 = h_up s318 66 8 ((σ1 66 8) + 1)) => ?_))
            refine h_vret rfl rfl (h_Kn ?_)
            refine h_vret rfl rfl (d_retn hlv1 ?_)
            clear hq296x
            exact h_wk [(0, .ref 63)] ⟨rfl, trivial⟩ (kx0 _ _ Is321 Is309 Fs321 Fs309 (by omega) (by omega) (by omega) (by omega) (by omega) (fun _ => d_mk (es321.2.2.2.2.2.2.2.1) (es321.2.2.2.2.2.2.2.2.1) (es321.2.2.2.2.2.2.2.2.2.1) (es321.2.2.2.2.2.2.2.2.2.2.1) (es321.2.2.2.2.2.2.2.2.2.2.2.1) (es321.2.2.2.2.2.2.2.2.2.2.2.2.1) (fun j => (h_upo es321.2.2.2.2.2.2.2.2.2.2.2.2.2 rfl j).trans ((h_upo es318.2.2.2.2.2.2.2.2.2.2.2.2.2 rfl j).trans ((h_upi es316.2.2.2.2.2.2.2.2.2.2.2.2.2 j).trans (congrArg (fun z => if j = (σ1 66 8) then a1 else z) ((Gsq296 67 j rfl).trans ((Gsq210 67 j rfl))))))) (fun j => (h_upo es321.2.2.2.2.2.2.2.2.2.2.2.2.2 rfl j).trans ((h_upi es318.2.2.2.2.2.2.2.2.2.2.2.2.2 j).trans (congrArg (fun z => if j = (σ1 66 8) then bq296x else z) ((h_upo es316.2.2.2.2.2.2.2.2.2.2.2.2.2 rfl j).trans ((Gsq296 68 j rfl).trans ((Gsq210 68 j rfl))))))) (fun j => (h_upo es321.2.2.2.2.2.2.2.2.2.2.2.2.2 rfl j).trans ((h_upo es318.2.2.2.2.2.2.2.2.2.2.2.2.2 rfl j).trans ((h_upo es316.2.2.2.2.2.2.2.2.2.2.2.2.2 rfl j).trans ((Gsq296 70 j rfl).trans ((Gsq210 70 j rfl)))))) (fun j => (h_upo es321.2.2.2.2.2.2.2.2.2.2.2.2.2 rfl j).trans ((h_upo es318.2.2.2.2.2.2.2.2.2.2.2.2.2 rfl j).trans ((h_upo es316.2.2.2.2.2.2.2.2.2.2.2.2.2 rfl j).trans ((Gsq296 71 j rfl).trans ((Gsq210 71 j rfl)))))) (fun j => (h_upo es321.2.2.2.2.2.2.2.2.2.2.2.2.2 rfl j).trans ((h_upo es318.2.2.2.2.2.2.2.2.2.2.2.2.2 rfl j).trans ((h_upo es316.2.2.2.2.2.2.2.2.2.2.2.2.2 rfl j).trans ((Gsq296 73 j rfl).trans ((Gsq210 73 j rfl)))))) (fun j => (h_upo es321.2.2.2.2.2.2.2.2.2.2.2.2.2 rfl j).trans ((h_upo es318.2.2.2.2.2.2.2.2.2.2.2.2.2 rfl j).trans ((h_upo es316.2.2.2.2.2.2.2.2.2.2.2.2.2 rfl j).trans ((Gsq296 74 j rfl).trans ((Gsq210 74 j rfl)))))) (fun j => (h_upo es321.2.2.2.2.2.2.2.2.2.2.2.2.2 rfl j).trans ((h_upo es318.2.2.2.2.2.2.2.2.2.2.2.2.2 rfl j).trans ((h_upo es316.2.2.2.2.2.2.2.2.2.2.2.2.2 rfl j).trans ((Gsq296 75 j rfl).trans ((Gsq210 75 j rfl)))))) (fun j => (h_upo es321.2.2.2.2.2.2.2.2.2.2.2.2.2 rfl j).trans ((h_upo es318.2.2.2.2.2.2.2.2.2.2.2.2.2 rfl j).trans ((h_upo es316.2.2.2.2.2.2.2.2.2.2.2.2.2 rfl j).trans ((Gsq296 76 j rfl).trans ((Gsq210 76 j rfl)))))) (fun j => (h_upo es321.2.2.2.2.2.2.2.2.2.2.2.2.2 rfl j).trans ((h_upo es318.2.2.2.2.2.2.2.2.2.2.2.2.2 rfl j).trans ((h_upo es316.2.2.2.2.2.2.2.2.2.2.2.2.2 rfl j).trans ((Gsq296 77 j rfl).trans ((Gsq210 77 j rfl)))))) (fun j => (h_upo es321.2.2.2.2.2.2.2.2.2.2.2.2.2 rfl j).trans ((h_upo es318.2.2.2.2.2.2.2.2.2.2.2.2.2 rfl j).trans ((h_upo es316.2.2.2.2.2.2.2.2.2.2.2.2.2 rfl j).trans ((Gsq296 78 j rfl).trans ((Gsq210 78 j rfl)))))) (es309.2.2.2.2.2.2.1) (es309.2.2.2.2.2.2.2.1) (es309.2.2.2.2.2.2.2.2.1) (es309.2.2.2.2.2.2.2.2.2.1) (es309.2.2.2.2.2.2.2.2.2.2.1) (fun j => (h_upo es309.2.2.2.2.2.2.2.2.2.2.2.2.2.2 rfl j).trans ((h_upi es306.2.2.2.2.2.2.2.2.2.2.2.2.2.2 j).trans (congrArg (fun z => if j = (6 + (σ2 98 5)) then (bq296m + 1) else z) ((Gtq296 101 j rfl).trans ((h_upi es280.2.2.2.2.2.2.2.2.2.2.2.2.2.2 j).trans (congrArg (fun z => if j = (σ2 98 5) then c1 else z) ((Gtq210 101 j rfl).trans ((h_upo es209.2.2.2.2.2.2.2.2.2.2.2.2.2.2 rfl j))))))))) (r_one1 pr12 (by omega) (by omega) (by omega) (by omega) (by omega) (by omega) (by omega) (by omega) (by omega) (by omega))) (Or.inr (Or.inl ⟨by omega, by omega, by omega, by omega, by omega⟩)) _ _ (h_al_ok ⟨rfl, trivial⟩ hlw310) hRw310)
          · show h_T g_P (g_Y ns) 153 45 [(0, .ref 98), (1, .int y1)] [.int rq296m, .int z284, .ref 101] tq296 _
            clear hz286 hz294
            refine h_iconst (pc' := 46) (x := (Int32.ofInt 1)) rfl rfl rfl ?_
            refine h_iadd (pc' := 47) rfl rfl hq296m ci_1 rfl (by have g0 := h_rgv hq296m; omega) (by have g0 := h_rgv hq296m; omega) (fun z322 hz322 => ?_)
            clear hq296m
            refine h_iast (pc' := 48) rfl rfl rfl rfl hz284 (by omega) (by omega) hz322 (h_fgt (E := fun s => s 98 15 = tq296 98 15 ∧ s 98 16 = tq296 98 16 ∧ s 98 17 = tq296 98 17 ∧ s 98 18 = tq296 98 18 ∧ s 98 13 = tq296 98 13 ∧ s 98 14 = tq296 98 14 ∧ s 98 5 = σ2 98 5 ∧ s 98 6 = σ2 98 6 ∧ s 98 7 = 0 ∧ s 98 8 = σ2 98 8 ∧ s 98 9 = σ2 98 9 ∧ s 101 18 = σ2 101 18 ∧ s 101 25 = σ2 101 25 ∧ s 101 43 = σ2 101 43 ∧ s = h_up tq296 101 (6 + (σ2 98 5)) (bq296m + 1)) _ (ip_101_1 Itq296 (by omega) (by omega)) (Ftq296.up rfl) ⟨rfl, rfl, rfl, rfl, rfl, rfl, etq296_6, etq296_7, etq296_8, etq296_9, etq296_10, h_up_n2 (by omega) etq296_11, h_up_n2 (by omega) etq296_12, h_up_n2 (by omega) etq296_13, rfl⟩ (fun s323 Is323 Fs323 (es323 : s323 98 15 = tq296 98 15 ∧ s323 98 16 = tq296 98 16 ∧ s323 98 17 = tq296 98 17 ∧ s323 98 18 = tq296 98 18 ∧ s323 98 13 = tq296 98 13 ∧ s323 98 14 = tq296 98 14 ∧ s323 98 5 = σ2 98 5 ∧ s323 98 6 = σ2 98 6 ∧ s323 98 7 = 0 ∧ s323 98 8 = σ2 98 8 ∧ s323 98 9 = σ2 98 9 ∧ s323 101 18 = σ2 101 18 ∧ s323 101 25 = σ2 101 25 ∧ s323 101 43 = σ2 101 43 ∧ s323 = h_up tq296 101 (6 + (σ2 98 5)) (bq296m + 1)) => ?_))
            clear hz284 hz322
            refine h_aload_n (pc' := 49) rfl rfl rfl ?_
            refine h_dup (pc' := 50) rfl rfl rfl ?_
            refine h_getI (pc' := 53) (v := σ2 98 5) rfl rfl rfl rfl rfl es323.2.2.2.2.2.2.1 (fun z324 hz324 => ?_)
            refine h_iconst (pc' := 54) (x := (Int32.ofInt 1)) rfl rfl rfl ?_
            refine h_iadd (pc' := 55) rfl rfl hz324 ci_1 rfl (by omega) (by omega) (fun z325 hz325 => ?_)
            clear hz324
            refine h_put (pc' := 58) rfl rfl rfl rfl rfl rfl hz325 rfl (h_fgt (E := fun s => s 98 15 = tq296 98 15 ∧ s 98 16 = tq296 98 16 ∧ s 98 17 = tq296 98 17 ∧ s 98 18 = tq296 98 18 ∧ s 98 13 = tq296 98 13 ∧ s 98 14 = tq296 98 14 ∧ s 98 5 = ((σ2 98 5) + 1) ∧ s 98 6 = σ2 98 6 ∧ s 98 7 = 0 ∧ s 98 8 = σ2 98 8 ∧ s 98 9 = σ2 98 9 ∧ s 101 18 = σ2 101 18 ∧ s 101 25 = σ2 101 25 ∧ s 101 43 = σ2 101 43 ∧ s = h_up s323 98 5 ((σ2 98 5) + 1)) _ (if_98_5 Is323 (by omega)) (Fs323.up rfl) ⟨es323.1, es323.2.1, es323.2.2.1, es323.2.2.2.1, es323.2.2.2.2.1, es323.2.2.2.2.2.1, rfl, es323.2.2.2.2.2.2.2.1, es323.2.2.2.2.2.2.2.2.1, es323.2.2.2.2.2.2.2.2.2.1, es323.2.2.2.2.2.2.2.2.2.2.1, es323.2.2.2.2.2.2.2.2.2.2.2.1, es323.2.2.2.2.2.2.2.2.2.2.2.2.1, es323.2.2.2.2.2.2.2.2.2.2.2.2.2.1, rfl⟩ (fun s326 Is326 Fs326 (es326 : s326 98 15 = tq296 98 15 ∧ s326 98 16 = tq296 98 16 ∧ s326 98 17 = tq296 98 17 ∧ s326 98 18 = tq296 98 18 ∧ s326 98 13 = tq296 98 13 ∧ s326 98 14 = tq296 98 14 ∧ s326 98 5 = ((σ2 98 5) + 1) ∧ s326 98 6 = σ2 98 6 ∧ s326 98 7 = 0 ∧ s326 98 8 = σ2 98 8 ∧ s326 98 9 = σ2 98 9 ∧ s326 101 18 = σ2 101 18 ∧ s326 101 25 = σ2 101 25 ∧ s326 101 43 = σ2 101 43 ∧ s326 = h_up s323 98 5 ((σ2 98 5) + 1)) => ?_))
            refine h_goto (pc' := 178) rfl rfl ?_
            refine h_vret rfl rfl (d_retn hlv277 ?_)
            refine d_toL (g_inj ns) hlw295 hRq296 (fun lvw327 memw327 hlw327 hRw327 => ?_)
            show h_T g_P (g_Y ns) 59 41 [(0, .ref 63), (1, .int x1)] [.int rq296x] sq296 _
            refine h_goto (pc' := 46) rfl rfl ?_
            refine h_istore_n (pc' := 47) (M := [(2, .int rq296x), (0, .ref 63), (1, .int x1)]) rfl rfl rfl rfl ?_
            refine h_aload_n (pc' := 48) rfl rfl rfl ?_
            refine h_getI (pc' := 51) (v := sq296 63 2) rfl rfl rfl rfl rfl rfl (fun z328 hz328 => ?_)
            have tz328 := tf_63_2 Isq296
            refine h_zne (tg := 63) (pc' := 54) rfl rfl rfl hz328 (fun c329 => absurd c329 (by omega)) (fun c329 => ?_)
            clear hz328
            refine h_aload_n (pc' := 55) rfl rfl rfl ?_
            refine h_getR (pc' := 58) rfl rfl rfl rfl rfl ?_
            refine h_iload_n (pc' := 59) rfl rfl rfl ?_
            refine h_iload_n (pc' := 60) rfl rfl rfl ?_
            refine h_call (sp := false) (pc' := 63) (M := [(0, .ref 66), (1, .int x1), (2, .int rq296x)]) rfl rfl rfl rfl rfl rfl rfl rfl ?_
            refine h_aload_n (pc' := 1) rfl rfl rfl ?_
            refine h_getI (pc' := 4) (v := σ1 66 8) rfl rfl rfl rfl rfl esq296_7 (fun z330 hz330 => ?_)
            refine h_bipush (pc' := 6) (x := (Int32.ofInt 6)) rfl rfl cb_6 ?_
            refine h_cge (tg := 39) (pc' := 9) rfl rfl rfl hz330 ci_6 (fun c331 => absurd c331 (by omega)) (fun c331 => ?_)
            clear hz330
            refine h_aload_n (pc' := 10) rfl rfl rfl ?_
            refine h_getR (pc' := 13) rfl rfl rfl rfl rfl ?_
            refine h_aload_n (pc' := 14) rfl rfl rfl ?_
            refine h_getI (pc' := 17) (v := σ1 66 8) rfl rfl rfl rfl rfl esq296_7 (fun z332 hz332 => ?_)
            refine h_iload_n (pc' := 18) rfl rfl rfl ?_
            refine h_iast (pc' := 19) rfl rfl rfl rfl hz332 (by omega) (by omega) hx1 (h_fgt (E := fun s => s 64 2 = sq296 64 2 ∧ s 64 4 = sq296 64 4 ∧ s 64 3 = sq296 64 3 ∧ s 64 5 = sq296 64 5 ∧ s 63 2 = sq296 63 2 ∧ s 63 3 = sq296 63 3 ∧ s 64 1 = σ1 64 1 ∧ s 66 8 = σ1 66 8 ∧ s 66 9 = σ1 66 9 ∧ s 66 10 = σ1 66 10 ∧ s 69 2 = σ1 69 2 ∧ s 72 2 = σ1 72 2 ∧ s 63 5 = σ1 63 5 ∧ s = h_up sq296 67 (σ1 66 8) a1) _ (in_67 Isq296 (by omega)) (Fsq296.up rfl) ⟨rfl, rfl, rfl, rfl, rfl, rfl, esq296_6, esq296_7, esq296_8, esq296_9, esq296_10, esq296_11, esq296_12, rfl⟩ (fun s333 Is333 Fs333 (es333 : s333 64 2 = sq296 64 2 ∧ s333 64 4 = sq296 64 4 ∧ s333 64 3 = sq296 64 3 ∧ s333 64 5 = sq296 64 5 ∧ s333 63 2 = sq296 63 2 ∧ s333 63 3 = sq296 63 3 ∧ s333 64 1 = σ1 64 1 ∧ s333 66 8 = σ1 66 8 ∧ s333 66 9 = σ1 66 9 ∧ s333 66 10 = σ1 66 10 ∧ s333 69 2 = σ1 69 2 ∧ s333 72 2 = σ1 72 2 ∧ s333 63 5 = σ1 63 5 ∧ s333 = h_up sq296 67 (σ1 66 8) a1) => ?_))
            clear hz332
            refine h_aload_n (pc' := 20) rfl rfl rfl ?_
            refine h_getR (pc' := 23) rfl rfl rfl rfl rfl ?_
            refine h_aload_n (pc' := 24) rfl rfl rfl ?_
            refine h_getI (pc' := 27) (v := σ1 66 8) rfl rfl rfl rfl rfl es333.2.2.2.2.2.2.2.1 (fun z334 hz334 => ?_)
            refine h_iload_n (pc' := 28) rfl rfl rfl ?_
            refine h_iast (pc' := 29) rfl rfl rfl rfl hz334 (by omega) (by omega) hq296x (h_fgt (E := fun s => s 64 2 = sq296 64 2 ∧ s 64 4 = sq296 64 4 ∧ s 64 3 = sq296 64 3 ∧ s 64 5 = sq296 64 5 ∧ s 63 2 = sq296 63 2 ∧ s 63 3 = sq296 63 3 ∧ s 64 1 = σ1 64 1 ∧ s 66 8 = σ1 66 8 ∧ s 66 9 = σ1 66 9 ∧ s 66 10 = σ1 66 10 ∧ s 69 2 = σ1 69 2 ∧ s 72 2 = σ1 72 2 ∧ s 63 5 = σ1 63 5 ∧ s = h_up s333 68 (σ1 66 8) bq296x) _ (in_68 Is333 (by omega)) (Fs333.up rfl) ⟨es333.1, es333.2.1, es333.2.2.1, es333.2.2.2.1, es333.2.2.2.2.1, es333.2.2.2.2.2.1, es333.2.2.2.2.2.2.1, es333.2.2.2.2.2.2.2.1, es333.2.2.2.2.2.2.2.2.1, es333.2.2.2.2.2.2.2.2.2.1, es333.2.2.2.2.2.2.2.2.2.2.1, es333.2.2.2.2.2.2.2.2.2.2.2.1, es333.2.2.2.2.2.2.2.2.2.2.2.2.1, rfl⟩ (fun s335 Is335 Fs335 (es335 : s335 64 2 = sq296 64 2 ∧ s335 64 4 = sq296 64 4 ∧ s335 64 3 = sq296 64 3 ∧ s335 64 5 = sq296 64 5 ∧ s335 63 2 = sq296 63 2 ∧ s335 63 3 = sq296 63 3 ∧ s335 64 1 = σ1 64 1 ∧ s335 66 8 = σ1 66 8 ∧ s335 66 9 = σ1 66 9 ∧ s335 66 10 = σ1 66 10 ∧ s335 69 2 = σ1 69 2 ∧ s335 72 2 = σ1 72 2 ∧ s335 63 5 = σ1 63 5 ∧ s335 = h_up s333 68 (σ1 66 8) bq296x) => ?_))
            clear hz334
            refine h_aload_n (pc' := 30) rfl rfl rfl ?_
            refine h_dup (pc' := 31) rfl rfl rfl ?_
            refine h_getI (pc' := 34) (v := σ1 66 8) rfl rfl rfl rfl rfl es335.2.2.2.2.2.2.2.1 (fun z336 hz336 => ?_)
            refine h_iconst (pc' := 35) (x := (Int32.ofInt 1)) rfl rfl rfl ?_
            refine h_iadd (pc' := 36) rfl rfl hz336 ci_1 rfl (by omega) (by omega) (fun z337 hz337 => ?_)
            clear hz336
            refine h_put (pc' := 39) rfl rfl rfl rfl rfl rfl hz337 rfl (h_fgt (E := fun s => s 64 2 = sq296 64 2 ∧ s 64 4 = sq296 64 4 ∧ s 64 3 = sq296 64 3 ∧ s 64 5 = sq296 64 5 ∧ s 63 2 = sq296 63 2 ∧ s 63 3 = sq296 63 3 ∧ s 64 1 = σ1 64 1 ∧ s 66 8 = ((σ1 66 8) + 1) ∧ s 66 9 = σ1 66 9 ∧ s 66 10 = σ1 66 10 ∧ s 69 2 = σ1 69 2 ∧ s 72 2 = σ1 72 2 ∧ s 63 5 = σ1 63 5 ∧ s = h_up s335 66 8 ((σ1 66 8) + 1)) _ (if_66_8 Is335 (by omega)) (Fs335.up rfl) ⟨es335.1, es335.2.1, es335.2.2.1, es335.2.2.2.1, es335.2.2.2.2.1, es335.2.2.2.2.2.1, es335.2.2.2.2.2.2.1, rfl, es335.2.2.2.2.2.2.2.2.1, es335.2.2.2.2.2.2.2.2.2.1, es335.2.2.2.2.2.2.2.2.2.2.1, es335.2.2.2.2.2.2.2.2.2.2.2.1, es335.2.2.2.2.2.2.2.2.2.2.2.2.1, rfl⟩ (fun s338 Is338 Fs338 (es338 : s338 64 2 = sq296 64 2 ∧ s338 64 4 = sq296 64 4 ∧ s338 64 3 = sq296 64 3 ∧ s338 64 5 = sq296 64 5 ∧ s338 63 2 = sq296 63 2 ∧ s338 63 3 = sq296 63 3 ∧ s338 64 1 = σ1 64 1 ∧ s338 66 8 = ((σ1 66 8) + 1) ∧ s338 66 9 = σ1 66 9 ∧ s338 66 10 = σ1 66 10 ∧ s338 69 2 = σ1 69 2 ∧ s338 72 2 = σ1 72 2 ∧ s338 63 5 = σ1 63 5 ∧ s338 = h_up s335 66 8 ((σ1 66 8) + 1)) => ?_))
            refine h_vret rfl rfl (h_Kn ?_)
            refine h_vret rfl rfl (d_retn hlv1 ?_)
            clear hq296x
            exact h_wk [(0, .ref 63)] ⟨rfl, trivial⟩ (kx0 _ _ Is338 Is326 Fs338 Fs326 (by omega) (by omega) (by omega) (by omega) (by omega) (fun _ => d_mk (es338.2.2.2.2.2.2.2.1) (es338.2.2.2.2.2.2.2.2.1) (es338.2.2.2.2.2.2.2.2.2.1) (es338.2.2.2.2.2.2.2.2.2.2.1) (es338.2.2.2.2.2.2.2.2.2.2.2.1) (es338.2.2.2.2.2.2.2.2.2.2.2.2.1) (fun j => (h_upo es338.2.2.2.2.2.2.2.2.2.2.2.2.2 rfl j).trans ((h_upo es335.2.2.2.2.2.2.2.2.2.2.2.2.2 rfl j).trans ((h_upi es333.2.2.2.2.2.2.2.2.2.2.2.2.2 j).trans (congrArg (fun z => if j = (σ1 66 8) then a1 else z) ((Gsq296 67 j rfl).trans ((Gsq210 67 j rfl))))))) (fun j => (h_upo es338.2.2.2.2.2.2.2.2.2.2.2.2.2 rfl j).trans ((h_upi es335.2.2.2.2.2.2.2.2.2.2.2.2.2 j).trans (congrArg (fun z => if j = (σ1 66 8) then bq296x else z) ((h_upo es333.2.2.2.2.2.2.2.2.2.2.2.2.2 rfl j).trans ((Gsq296 68 j rfl).trans ((Gsq210 68 j rfl))))))) (fun j => (h_upo es338.2.2.2.2.2.2.2.2.2.2.2.2.2 rfl j).trans ((h_upo es335.2.2.2.2.2.2.2.2.2.2.2.2.2 rfl j).trans ((h_upo es333.2.2.2.2.2.2.2.2.2.2.2.2.2 rfl j).trans ((Gsq296 70 j rfl).trans ((Gsq210 70 j rfl)))))) (fun j => (h_upo es338.2.2.2.2.2.2.2.2.2.2.2.2.2 rfl j).trans ((h_upo es335.2.2.2.2.2.2.2.2.2.2.2.2.2 rfl j).trans ((h_upo es333.2.2.2.2.2.2.2.2.2.2.2.2.2 rfl j).trans ((Gsq296 71 j rfl).trans ((Gsq210 71 j rfl)))))) (fun j => (h_upo es338.2.2.2.2.2.2.2.2.2.2.2.2.2 rfl j).trans ((h_upo es335.2.2.2.2.2.2.2.2.2.2.2.2.2 rfl j).trans ((h_upo es333.2.2.2.2.2.2.2.2.2.2.2.2.2 rfl j).trans ((Gsq296 73 j rfl).trans ((Gsq210 73 j rfl)))))) (fun j => (h_upo es338.2.2.2.2.2.2.2.2.2.2.2.2.2 rfl j).trans ((h_upo es335.2.2.2.2.2.2.2.2.2.2.2.2.2 rfl j).trans ((h_upo es333.2.2.2.2.2.2.2.2.2.2.2.2.2 rfl j).trans ((Gsq296 74 j rfl).trans ((Gsq210 74 j rfl)))))) (fun j => (h_upo es338.2.2.2.2.2.2.2.2.2.2.2.2.2 rfl j).trans ((h_upo es335.2.2.2.2.2.2.2.2.2.2.2.2.2 rfl j).trans ((h_upo es333.2.2.2.2.2.2.2.2.2.2.2.2.2 rfl j).trans ((Gsq296 75 j rfl).trans ((Gsq210 75 j rfl)))))) (fun j => (h_upo es338.2.2.2.2.2.2.2.2.2.2.2.2.2 rfl j).trans ((h_upo es335.2.2.2.2.2.2.2.2.2.2.2.2.2 rfl j).trans ((h_upo es333.2.2.2.2.2.2.2.2.2.2.2.2.2 rfl j).trans ((Gsq296 76 j rfl).trans ((Gsq210 76 j rfl)))))) (fun j => (h_upo es338.2.2.2.2.2.2.2.2.2.2.2.2.2 rfl j).trans ((h_upo es335.2.2.2.2.2.2.2.2.2.2.2.2.2 rfl j).trans ((h_upo es333.2.2.2.2.2.2.2.2.2.2.2.2.2 rfl j).trans ((Gsq296 77 j rfl).trans ((Gsq210 77 j rfl)))))) (fun j => (h_upo es338.2.2.2.2.2.2.2.2.2.2.2.2.2 rfl j).trans ((h_upo es335.2.2.2.2.2.2.2.2.2.2.2.2.2 rfl j).trans ((h_upo es333.2.2.2.2.2.2.2.2.2.2.2.2.2 rfl j).trans ((Gsq296 78 j rfl).trans ((Gsq210 78 j rfl)))))) (es326.2.2.2.2.2.2.1) (es326.2.2.2.2.2.2.2.1) (es326.2.2.2.2.2.2.2.2.1) (es326.2.2.2.2.2.2.2.2.2.1) (es326.2.2.2.2.2.2.2.2.2.2.1) (fun j => (h_upo es326.2.2.2.2.2.2.2.2.2.2.2.2.2.2 rfl j).trans ((h_upi es323.2.2.2.2.2.2.2.2.2.2.2.2.2.2 j).trans (congrArg (fun z => if j = (6 + (σ2 98 5)) then (bq296m + 1) else z) ((Gtq296 101 j rfl).trans ((h_upi es280.2.2.2.2.2.2.2.2.2.2.2.2.2.2 j).trans (congrArg (fun z => if j = (σ2 98 5) then c1 else z) ((Gtq210 101 j rfl).trans ((h_upo es209.2.2.2.2.2.2.2.2.2.2.2.2.2.2 rfl j))))))))) (r_one1 pr12 (by omega) (by omega) (by omega) (by omega) (by omega) (by omega) (by omega) (by omega) (by omega) (by omega))) (Or.inr (Or.inr (Or.inl ⟨by omega, by omega, by omega, by omega, by omega, by omega⟩))) _ _ (h_al_ok ⟨rfl, trivial⟩ hlw327) hRw327)
          · show h_T g_P (g_Y ns) 153 45 [(0, .ref 98), (1, .int y1)] [.int rq296m, .int z284, .ref 101] tq296 _
            clear hz286 hz294
            refine h_iconst (pc' := 46) (x := (Int32.ofInt 1)) rfl rfl rfl ?_
            refine h_iadd (pc' := 47) rfl rfl hq296m ci_1 rfl (by have g0 := h_rgv hq296m; omega) (by have g0 := h_rgv hq296m; omega) (fun z339 hz339 => ?_)
            clear hq296m
            refine h_iast (pc' := 48) rfl rfl rfl rfl hz284 (by omega) (by omega) hz339 (h_fgt (E := fun s => s 98 15 = tq296 98 15 ∧ s 98 16 = tq296 98 16 ∧ s 98 17 = tq296 98 17 ∧ s 98 18 = tq296 98 18 ∧ s 98 13 = tq296 98 13 ∧ s 98 14 = tq296 98 14 ∧ s 98 5 = σ2 98 5 ∧ s 98 6 = σ2 98 6 ∧ s 98 7 = 0 ∧ s 98 8 = σ2 98 8 ∧ s 98 9 = σ2 98 9 ∧ s 101 18 = σ2 101 18 ∧ s 101 25 = σ2 101 25 ∧ s 101 43 = σ2 101 43 ∧ s = h_up tq296 101 (6 + (σ2 98 5)) (bq296m + 1)) _ (ip_101_1 Itq296 (by omega) (by omega)) (Ftq296.up rfl) ⟨rfl, rfl, rfl, rfl, rfl, rfl, etq296_6, etq296_7, etq296_8, etq296_9, etq296_10, h_up_n2 (by omega) etq296_11, h_up_n2 (by omega) etq296_12, h_up_n2 (by omega) etq296_13, rfl⟩ (fun s340 Is340 Fs340 (es340 : s340 98 15 = tq296 98 15 ∧ s340 98 16 = tq296 98 16 ∧ s340 98 17 = tq296 98 17 ∧ s340 98 18 = tq296 98 18 ∧ s340 98 13 = tq296 98 13 ∧ s340 98 14 = tq296 98 14 ∧ s340 98 5 = σ2 98 5 ∧ s340 98 6 = σ2 98 6 ∧ s340 98 7 = 0 ∧ s340 98 8 = σ2 98 8 ∧ s340 98 9 = σ2 98 9 ∧ s340 101 18 = σ2 101 18 ∧ s340 101 25 = σ2 101 25 ∧ s340 101 43 = σ2 101 43 ∧ s340 = h_up tq296 101 (6 + (σ2 98 5)) (bq296m + 1)) => ?_))
            clear hz284 hz339
            refine h_aload_n (pc' := 49) rfl rfl rfl ?_
            refine h_dup (pc' := 50) rfl rfl rfl ?_
            refine h_getI (pc' := 53) (v := σ2 98 5) rfl rfl rfl rfl rfl es340.2.2.2.2.2.2.1 (fun z341 hz341 => ?_)
            refine h_iconst (pc' := 54) (x := (Int32.ofInt 1)) rfl rfl rfl ?_
            refine h_iadd (pc' := 55) rfl rfl hz341 ci_1 rfl (by omega) (by omega) (fun z342 hz342 => ?_)
            clear hz341
            refine h_put (pc' := 58) rfl rfl rfl rfl rfl rfl hz342 rfl (h_fgt (E := fun s => s 98 15 = tq296 98 15 ∧ s 98 16 = tq296 98 16 ∧ s 98 17 = tq296 98 17 ∧ s 98 18 = tq296 98 18 ∧ s 98 13 = tq296 98 13 ∧ s 98 14 = tq296 98 14 ∧ s 98 5 = ((σ2 98 5) + 1) ∧ s 98 6 = σ2 98 6 ∧ s 98 7 = 0 ∧ s 98 8 = σ2 98 8 ∧ s 98 9 = σ2 98 9 ∧ s 101 18 = σ2 101 18 ∧ s 101 25 = σ2 101 25 ∧ s 101 43 = σ2 101 43 ∧ s = h_up s340 98 5 ((σ2 98 5) + 1)) _ (if_98_5 Is340 (by omega)) (Fs340.up rfl) ⟨es340.1, es340.2.1, es340.2.2.1, es340.2.2.2.1, es340.2.2.2.2.1, es340.2.2.2.2.2.1, rfl, es340.2.2.2.2.2.2.2.1, es340.2.2.2.2.2.2.2.2.1, es340.2.2.2.2.2.2.2.2.2.1, es340.2.2.2.2.2.2.2.2.2.2.1, es340.2.2.2.2.2.2.2.2.2.2.2.1, es340.2.2.2.2.2.2.2.2.2.2.2.2.1, es340.2.2.2.2.2.2.2.2.2.2.2.2.2.1, rfl⟩ (fun s343 Is343 Fs343 (es343 : s343 98 15 = tq296 98 15 ∧ s343 98 16 = tq296 98 16 ∧ s343 98 17 = tq296 98 17 ∧ s343 98 18 = tq296 98 18 ∧ s343 98 13 = tq296 98 13 ∧ s343 98 14 = tq296 98 14 ∧ s343 98 5 = ((σ2 98 5) + 1) ∧ s343 98 6 = σ2 98 6 ∧ s343 98 7 = 0 ∧ s343 98 8 = σ2 98 8 ∧ s343 98 9 = σ2 98 9 ∧ s343 101 18 = σ2 101 18 ∧ s343 101 25 = σ2 101 25 ∧ s343 101 43 = σ2 101 43 ∧ s343 = h_up s340 98 5 ((σ2 98 5) + 1)) => ?_))
            refine h_goto (pc' := 178) rfl rfl ?_
            refine h_vret rfl rfl (d_retn hlv277 ?_)
            refine d_toL (g_inj ns) hlw295 hRq296 (fun lvw344 memw344 hlw344 hRw344 => ?_)
            show h_T g_P (g_Y ns) 59 41 [(0, .ref 63), (1, .int x1)] [.int rq296x] sq296 _
            refine h_goto (pc' := 46) rfl rfl ?_
            refine h_istore_n (pc' := 47) (M := [(2, .int rq296x), (0, .ref 63), (1, .int x1)]) rfl rfl rfl rfl ?_
            refine h_aload_n (pc' := 48) rfl rfl rfl ?_
            refine h_getI (pc' := 51) (v := sq296 63 2) rfl rfl rfl rfl rfl rfl (fun z345 hz345 => ?_)
            have tz345 := tf_63_2 Isq296
            refine h_zne (tg := 63) (pc' := 54) rfl rfl rfl hz345 (fun c346 => absurd c346 (by omega)) (fun c346 => ?_)
            clear hz345
            refine h_aload_n (pc' := 55) rfl rfl rfl ?_
            refine h_getR (pc' := 58) rfl rfl rfl rfl rfl ?_
            refine h_iload_n (pc' := 59) rfl rfl rfl ?_
            refine h_iload_n (pc' := 60) rfl rfl rfl ?_
            refine h_call (sp := false) (pc' := 63) (M := [(0, .ref 66), (1, .int x1), (2, .int rq296x)]) rfl rfl rfl rfl rfl rfl rfl rfl ?_
            refine h_aload_n (pc' := 1) rfl rfl rfl ?_
            refine h_getI (pc' := 4) (v := σ1 66 8) rfl rfl rfl rfl rfl esq296_7 (fun z347 hz347 => ?_)
            refine h_bipush (pc' := 6) (x := (Int32.ofInt 6)) rfl rfl cb_6 ?_
            refine h_cge (tg := 39) (pc' := 9) rfl rfl rfl hz347 ci_6 (fun c348 => absurd c348 (by omega)) (fun c348 => ?_)
            clear hz347
            refine h_aload_n (pc' := 10) rfl rfl rfl ?_
            refine h_getR (pc' := 13) rfl rfl rfl rfl rfl ?_
            refine h_aload_n (pc' := 14) rfl rfl rfl ?_
            refine h_getI (pc' := 17) (v := σ1 66 8) rfl rfl rfl rfl rfl esq296_7 (fun z349 hz349 => ?_)
            refine h_iload_n (pc' := 18) rfl rfl rfl ?_
            refine h_iast (pc' := 19) rfl rfl rfl rfl hz349 (by omega) (by omega) hx1 (h_fgt (E := fun s => s 64 2 = sq296 64 2 ∧ s 64 4 = sq296 64 4 ∧ s 64 3 = sq296 64 3 ∧ s 64 5 = sq296 64 5 ∧ s 63 2 = sq296 63 2 ∧ s 63 3 = sq296 63 3 ∧ s 64 1 = σ1 64 1 ∧ s 66 8 = σ1 66 8 ∧ s 66 9 = σ1 66 9 ∧ s 66 10 = σ1 66 10 ∧ s 69 2 = σ1 69 2 ∧ s 72 2 = σ1 72 2 ∧ s 63 5 = σ1 63 5 ∧ s = h_up sq296 67 (σ1 66 8) a1) _ (in_67 Isq296 (by omega)) (Fsq296.up rfl) ⟨rfl, rfl, rfl, rfl, rfl, rfl, esq296_6, esq296_7, esq296_8, esq296_9, esq296_10, esq296_11, esq296_12, rfl⟩ (fun s350 Is350 Fs350 (es350 : s350 64 2 = sq296 64 2 ∧ s350 64 4 = sq296 64 4 ∧ s350 64 3 = sq296 64 3 ∧ s350 64 5 = sq296 64 5 ∧ s350 63 2 = sq296 63 2 ∧ s350 63 3 = sq296 63 3 ∧ s350 64 1 = σ1 64 1 ∧ s350 66 8 = σ1 66 8 ∧ s350 66 9 = σ1 66 9 ∧ s350 66 10 = σ1 66 10 ∧ s350 69 2 = σ1 69 2 ∧ s350 72 2 = σ1 72 2 ∧ s350 63 5 = σ1 63 5 ∧ s350 = h_up sq296 67 (σ1 66 8) a1) => ?_))
            clear hz349
            refine h_aload_n (pc' := 20) rfl rfl rfl ?_
            refine h_getR (pc' := 23) rfl rfl rfl rfl rfl ?_
            refine h_aload_n (pc' := 24) rfl rfl rfl ?_
            refine h_getI (pc' := 27) (v := σ1 66 8) rfl rfl rfl rfl rfl es350.2.2.2.2.2.2.2.1 (fun z351 hz351 => ?_)
            refine h_iload_n (pc' := 28) rfl rfl rfl ?_
            refine h_iast (pc' := 29) rfl rfl rfl rfl hz351 (by omega) (by omega) hq296x (h_fgt (E := fun s => s 64 2 = sq296 64 2 ∧ s 64 4 = sq296 64 4 ∧ s 64 3 = sq296 64 3 ∧ s 64 5 = sq296 64 5 ∧ s 63 2 = sq296 63 2 ∧ s 63 3 = sq296 63 3 ∧ s 64 1 = σ1 64 1 ∧ s 66 8 = σ1 66 8 ∧ s 66 9 = σ1 66 9 ∧ s 66 10 = σ1 66 10 ∧ s 69 2 = σ1 69 2 ∧ s 72 2 = σ1 72 2 ∧ s 63 5 = σ1 63 5 ∧ s = h_up s350 68 (σ1 66 8) bq296x) _ (in_68 Is350 (by omega)) (Fs350.up rfl) ⟨es350.1, es350.2.1, es350.2.2.1, es350.2.2.2.1, es350.2.2.2.2.1, es350.2.2.2.2.2.1, es350.2.2.2.2.2.2.1, es350.2.2.2.2.2.2.2.1, es350.2.2.2.2.2.2.2.2.1, es350.2.2.2.2.2.2.2.2.2.1, es350.2.2.2.2.2.2.2.2.2.2.1, es350.2.2.2.2.2.2.2.2.2.2.2.1, es350.2.2.2.2.2.2.2.2.2.2.2.2.1, rfl⟩ (fun s352 Is352 Fs352 (es352 : s352 64 2 = sq296 64 2 ∧ s352 64 4 = sq296 64 4 ∧ s352 64 3 = sq296 64 3 ∧ s352 64 5 = sq296 64 5 ∧ s352 63 2 = sq296 63 2 ∧ s352 63 3 = sq296 63 3 ∧ s352 64 1 = σ1 64 1 ∧ s352 66 8 = σ1 66 8 ∧ s352 66 9 = σ1 66 9 ∧ s352 66 10 = σ1 66 10 ∧ s352 69 2 = σ1 69 2 ∧ s352 72 2 = σ1 72 2 ∧ s352 63 5 = σ1 63 5 ∧ s352 = h_up s350 68 (σ1 66 8) bq296x) => ?_))
            clear hz351
            refine h_aload_n (pc' := 30) rfl rfl rfl ?_
            refine h_dup (pc' := 31) rfl rfl rfl ?_
            refine h_getI (pc' := 34) (v := σ1 66 8) rfl rfl rfl rfl rfl es352.2.2.2.2.2.2.2.1 (fun z353 hz353 => ?_)
            refine h_iconst (pc' := 35) (x := (Int32.ofInt 1)) rfl rfl rfl ?_
            refine h_iadd (pc' := 36) rfl rfl hz353 ci_1 rfl (by omega) (by omega) (fun z354 hz354 => ?_)
            clear hz353
            refine h_put (pc' := 39) rfl rfl rfl rfl rfl rfl hz354 rfl (h_fgt (E := fun s => s 64 2 = sq296 64 2 ∧ s 64 4 = sq296 64 4 ∧ s 64 3 = sq296 64 3 ∧ s 64 5 = sq296 64 5 ∧ s 63 2 = sq296 63 2 ∧ s 63 3 = sq296 63 3 ∧ s 64 1 = σ1 64 1 ∧ s 66 8 = ((σ1 66 8) + 1) ∧ s 66 9 = σ1 66 9 ∧ s 66 10 = σ1 66 10 ∧ s 69 2 = σ1 69 2 ∧ s 72 2 = σ1 72 2 ∧ s 63 5 = σ1 63 5 ∧ s = h_up s352 66 8 ((σ1 66 8) + 1)) _ (if_66_8 Is352 (by omega)) (Fs352.up rfl) ⟨es352.1, es352.2.1, es352.2.2.1, es352.2.2.2.1, es352.2.2.2.2.1, es352.2.2.2.2.2.1, es352.2.2.2.2.2.2.1, rfl, es352.2.2.2.2.2.2.2.2.1, es352.2.2.2.2.2.2.2.2.2.1, es352.2.2.2.2.2.2.2.2.2.2.1, es352.2.2.2.2.2.2.2.2.2.2.2.1, es352.2.2.2.2.2.2.2.2.2.2.2.2.1, rfl⟩ (fun s355 Is355 Fs355 (es355 : s355 64 2 = sq296 64 2 ∧ s355 64 4 = sq296 64 4 ∧ s355 64 3 = sq296 64 3 ∧ s355 64 5 = sq296 64 5 ∧ s355 63 2 = sq296 63 2 ∧ s355 63 3 = sq296 63 3 ∧ s355 64 1 = σ1 64 1 ∧ s355 66 8 = ((σ1 66 8) + 1) ∧ s355 66 9 = σ1 66 9 ∧ s355 66 10 = σ1 66 10 ∧ s355 69 2 = σ1 69 2 ∧ s355 72 2 = σ1 72 2 ∧ s355 63 5 = σ1 63 5 ∧ s355 = h_up s352 66 8 ((σ1 66 8) + 1)) => ?_))
            refine h_vret rfl rfl (h_Kn ?_)
            refine h_vret rfl rfl (d_retn hlv1 ?_)
            clear hq296x
            exact h_wk [(0, .ref 63)] ⟨rfl, trivial⟩ (kx0 _ _ Is355 Is343 Fs355 Fs343 (by omega) (by omega) (by omega) (by omega) (by omega) (fun _ => d_mk (es355.2.2.2.2.2.2.2.1) (es355.2.2.2.2.2.2.2.2.1) (es355.2.2.2.2.2.2.2.2.2.1) (es355.2.2.2.2.2.2.2.2.2.2.1) (es355.2.2.2.2.2.2.2.2.2.2.2.1) (es355.2.2.2.2.2.2.2.2.2.2.2.2.1) (fun j => (h_upo es355.2.2.2.2.2.2.2.2.2.2.2.2.2 rfl j).trans ((h_upo es352.2.2.2.2.2.2.2.2.2.2.2.2.2 rfl j).trans ((h_upi es350.2.2.2.2.2.2.2.2.2.2.2.2.2 j).trans (congrArg (fun z => if j = (σ1 66 8) then a1 else z) ((Gsq296 67 j rfl).trans ((Gsq210 67 j rfl))))))) (fun j => (h_upo es355.2.2.2.2.2.2.2.2.2.2.2.2.2 rfl j).trans ((h_upi es352.2.2.2.2.2.2.2.2.2.2.2.2.2 j).trans (congrArg (fun z => if j = (σ1 66 8) then bq296x else z) ((h_upo es350.2.2.2.2.2.2.2.2.2.2.2.2.2 rfl j).trans ((Gsq296 68 j rfl).trans ((Gsq210 68 j rfl))))))) (fun j => (h_upo es355.2.2.2.2.2.2.2.2.2.2.2.2.2 rfl j).trans ((h_upo es352.2.2.2.2.2.2.2.2.2.2.2.2.2 rfl j).trans ((h_upo es350.2.2.2.2.2.2.2.2.2.2.2.2.2 rfl j).trans ((Gsq296 70 j rfl).trans ((Gsq210 70 j rfl)))))) (fun j => (h_upo es355.2.2.2.2.2.2.2.2.2.2.2.2.2 rfl j).trans ((h_upo es352.2.2.2.2.2.2.2.2.2.2.2.2.2 rfl j).trans ((h_upo es350.2.2.2.2.2.2.2.2.2.2.2.2.2 rfl j).trans ((Gsq296 71 j rfl).trans ((Gsq210 71 j rfl)))))) (fun j => (h_upo es355.2.2.2.2.2.2.2.2.2.2.2.2.2 rfl j).trans ((h_upo es352.2.2.2.2.2.2.2.2.2.2.2.2.2 rfl j).trans ((h_upo es350.2.2.2.2.2.2.2.2.2.2.2.2.2 rfl j).trans ((Gsq296 73 j rfl).trans ((Gsq210 73 j rfl)))))) (fun j => (h_upo es355.2.2.2.2.2.2.2.2.2.2.2.2.2 rfl j).trans ((h_upo es352.2.2.2.2.2.2.2.2.2.2.2.2.2 rfl j).trans ((h_upo es350.2.2.2.2.2.2.2.2.2.2.2.2.2 rfl j).trans ((Gsq296 74 j rfl).trans ((Gsq210 74 j rfl)))))) (fun j => (h_upo es355.2.2.2.2.2.2.2.2.2.2.2.2.2 rfl j).trans ((h_upo es352.2.2.2.2.2.2.2.2.2.2.2.2.2 rfl j).trans ((h_upo es350.2.2.2.2.2.2.2.2.2.2.2.2.2 rfl j).trans ((Gsq296 75 j rfl).trans ((Gsq210 75 j rfl)))))) (fun j => (h_upo es355.2.2.2.2.2.2.2.2.2.2.2.2.2 rfl j).trans ((h_upo es352.2.2.2.2.2.2.2.2.2.2.2.2.2 rfl j).trans ((h_upo es350.2.2.2.2.2.2.2.2.2.2.2.2.2 rfl j).trans ((Gsq296 76 j rfl).trans ((Gsq210 76 j rfl)))))) (fun j => (h_upo es355.2.2.2.2.2.2.2.2.2.2.2.2.2 rfl j).trans ((h_upo es352.2.2.2.2.2.2.2.2.2.2.2.2.2 rfl j).trans ((h_upo es350.2.2.2.2.2.2.2.2.2.2.2.2.2 rfl j).trans ((Gsq296 77 j rfl).trans ((Gsq210 77 j rfl)))))) (fun j => (h_upo es355.2.2.2.2.2.2.2.2.2.2.2.2.2 rfl j).trans ((h_upo es352.2.2.2.2.2.2.2.2.2.2.2.2.2 rfl j).trans ((h_upo es350.2.2.2.2.2.2.2.2.2.2.2.2.2 rfl j).trans ((Gsq296 78 j rfl).trans ((Gsq210 78 j rfl)))))) (es343.2.2.2.2.2.2.1) (es343.2.2.2.2.2.2.2.1) (es343.2.2.2.2.2.2.2.2.1) (es343.2.2.2.2.2.2.2.2.2.1) (es343.2.2.2.2.2.2.2.2.2.2.1) (fun j => (h_upo es343.2.2.2.2.2.2.2.2.2.2.2.2.2.2 rfl j).trans ((h_upi es340.2.2.2.2.2.2.2.2.2.2.2.2.2.2 j).trans (congrArg (fun z => if j = (6 + (σ2 98 5)) then (bq296m + 1) else z) ((Gtq296 101 j rfl).trans ((h_upi es280.2.2.2.2.2.2.2.2.2.2.2.2.2.2 j).trans (congrArg (fun z => if j = (σ2 98 5) then c1 else z) ((Gtq210 101 j rfl).trans ((h_upo es209.2.2.2.2.2.2.2.2.2.2.2.2.2.2 rfl j))))))))) (r_one1 pr12 (by omega) (by omega) (by omega) (by omega) (by omega) (by omega) (by omega) (by omega) (by omega) (by omega))) (Or.inr (Or.inr (Or.inr (Or.inl ⟨by omega, by omega, by omega, by omega, by omega, by omega, by omega, by omega, by omega⟩)))) _ _ (h_al_ok ⟨rfl, trivial⟩ hlw344) hRw344)
          · show h_T g_P (g_Y ns) 153 45 [(0, .ref 98), (1, .int y1)] [.int rq296m, .int z284, .ref 101] tq296 _
            clear hz286 hz294
            refine h_iconst (pc' := 46) (x := (Int32.ofInt 1)) rfl rfl rfl ?_
            refine h_iadd (pc' := 47) rfl rfl hq296m ci_1 rfl (by have g0 := h_rgv hq296m; omega) (by have g0 := h_rgv hq296m; omega) (fun z356 hz356 => ?_)
            clear hq296m
            refine h_iast (pc' := 48) rfl rfl rfl rfl hz284 (by omega) (by omega) hz356 (h_fgt (E := fun s => s 98 15 = tq296 98 15 ∧ s 98 16 = tq296 98 16 ∧ s 98 17 = tq296 98 17 ∧ s 98 18 = tq296 98 18 ∧ s 98 13 = tq296 98 13 ∧ s 98 14 = tq296 98 14 ∧ s 98 5 = σ2 98 5 ∧ s 98 6 = σ2 98 6 ∧ s 98 7 = 0 ∧ s 98 8 = σ2 98 8 ∧ s 98 9 = σ2 98 9 ∧ s 101 18 = σ2 101 18 ∧ s 101 25 = σ2 101 25 ∧ s 101 43 = σ2 101 43 ∧ s = h_up tq296 101 (6 + (σ2 98 5)) (bq296m + 1)) _ (ip_101_1 Itq296 (by omega) (by omega)) (Ftq296.up rfl) ⟨rfl, rfl, rfl, rfl, rfl, rfl, etq296_6, etq296_7, etq296_8, etq296_9, etq296_10, h_up_n2 (by omega) etq296_11, h_up_n2 (by omega) etq296_12, h_up_n2 (by omega) etq296_13, rfl⟩ (fun s357 Is357 Fs357 (es357 : s357 98 15 = tq296 98 15 ∧ s357 98 16 = tq296 98 16 ∧ s357 98 17 = tq296 98 17 ∧ s357 98 18 = tq296 98 18 ∧ s357 98 13 = tq296 98 13 ∧ s357 98 14 = tq296 98 14 ∧ s357 98 5 = σ2 98 5 ∧ s357 98 6 = σ2 98 6 ∧ s357 98 7 = 0 ∧ s357 98 8 = σ2 98 8 ∧ s357 98 9 = σ2 98 9 ∧ s357 101 18 = σ2 101 18 ∧ s357 101 25 = σ2 101 25 ∧ s357 101 43 = σ2 101 43 ∧ s357 = h_up tq296 101 (6 + (σ2 98 5)) (bq296m + 1)) => ?_))
            clear hz284 hz356
            refine h_aload_n (pc' := 49) rfl rfl rfl ?_
            refine h_dup (pc' := 50) rfl rfl rfl ?_
            refine h_getI (pc' := 53) (v := σ2 98 5) rfl rfl rfl rfl rfl es357.2.2.2.2.2.2.1 (fun z358 hz358 => ?_)
            refine h_iconst (pc' := 54) (x := (Int32.ofInt 1)) rfl rfl rfl ?_
            refine h_iadd (pc' := 55) rfl rfl hz358 ci_1 rfl (by omega) (by omega) (fun z359 hz359 => ?_)
            clear hz358
            refine h_put (pc' := 58) rfl rfl rfl rfl rfl rfl hz359 rfl (h_fgt (E := fun s => s 98 15 = tq296 98 15 ∧ s 98 16 = tq296 98 16 ∧ s 98 17 = tq296 98 17 ∧ s 98 18 = tq296 98 18 ∧ s 98 13 = tq296 98 13 ∧ s 98 14 = tq296 98 14 ∧ s 98 5 = ((σ2 98 5) + 1) ∧ s 98 6 = σ2 98 6 ∧ s 98 7 = 0 ∧ s 98 8 = σ2 98 8 ∧ s 98 9 = σ2 98 9 ∧ s 101 18 = σ2 101 18 ∧ s 101 25 = σ2 101 25 ∧ s 101 43 = σ2 101 43 ∧ s = h_up s357 98 5 ((σ2 98 5) + 1)) _ (if_98_5 Is357 (by omega)) (Fs357.up rfl) ⟨es357.1, es357.2.1, es357.2.2.1, es357.2.2.2.1, es357.2.2.2.2.1, es357.2.2.2.2.2.1, rfl, es357.2.2.2.2.2.2.2.1, es357.2.2.2.2.2.2.2.2.1, es357.2.2.2.2.2.2.2.2.2.1, es357.2.2.2.2.2.2.2.2.2.2.1, es357.2.2.2.2.2.2.2.2.2.2.2.1, es357.2.2.2.2.2.2.2.2.2.2.2.2.1, es357.2.2.2.2.2.2.2.2.2.2.2.2.2.1, rfl⟩ (fun s360 Is360 Fs360 (es360 : s360 98 15 = tq296 98 15 ∧ s360 98 16 = tq296 98 16 ∧ s360 98 17 = tq296 98 17 ∧ s360 98 18 = tq296 98 18 ∧ s360 98 13 = tq296 98 13 ∧ s360 98 14 = tq296 98 14 ∧ s360 98 5 = ((σ2 98 5) + 1) ∧ s360 98 6 = σ2 98 6 ∧ s360 98 7 = 0 ∧ s360 98 8 = σ2 98 8 ∧ s360 98 9 = σ2 98 9 ∧ s360 101 18 = σ2 101 18 ∧ s360 101 25 = σ2 101 25 ∧ s360 101 43 = σ2 101 43 ∧ s360 = h_up s357 98 5 ((σ2 98 5) + 1)) => ?_))
            refine h_goto (pc' := 178) rfl rfl ?_
            refine h_vret rfl rfl (d_retn hlv277 ?_)
            refine d_toL (g_inj ns) hlw295 hRq296 (fun lvw361 memw361 hlw361 hRw361 => ?_)
            show h_T g_P (g_Y ns) 59 41 [(0, .ref 63), (1, .int x1)] [.int rq296x] sq296 _
            refine h_goto (pc' := 46) rfl rfl ?_
            refine h_istore_n (pc' := 47) (M := [(2, .int rq296x), (0, .ref 63), (1, .int x1)]) rfl rfl rfl rfl ?_
            refine h_aload_n (pc' := 48) rfl rfl rfl ?_
            refine h_getI (pc' := 51) (v := sq296 63 2) rfl rfl rfl rfl rfl rfl (fun z362 hz362 => ?_)
            have tz362 := tf_63_2 Isq296
            refine h_zne (tg := 63) (pc' := 54) rfl rfl rfl hz362 (fun c363 => absurd c363 (by omega)) (fun c363 => ?_)
            clear hz362
            refine h_aload_n (pc' := 55) rfl rfl rfl ?_
            refine h_getR (pc' := 58) rfl rfl rfl rfl rfl ?_
            refine h_iload_n (pc' := 59) rfl rfl rfl ?_
            refine h_iload_n (pc' := 60) rfl rfl rfl ?_
            refine h_call (sp := false) (pc' := 63) (M := [(0, .ref 66), (1, .int x1), (2, .int rq296x)]) rfl rfl rfl rfl rfl rfl rfl rfl ?_
            refine h_aload_n (pc' := 1) rfl rfl rfl ?_
            refine h_getI (pc' := 4) (v := σ1 66 8) rfl rfl rfl rfl rfl esq296_7 (fun z364 hz364 => ?_)
            refine h_bipush (pc' := 6) (x := (Int32.ofInt 6)) rfl rfl cb_6 ?_
            refine h_cge (tg := 39) (pc' := 9) rfl rfl rfl hz364 ci_6 (fun c365 => absurd c365 (by omega)) (fun c365 => ?_)
            clear hz364
            refine h_aload_n (pc' := 10) rfl rfl rfl ?_
            refine h_getR (pc' := 13) rfl rfl rfl rfl rfl ?_
            refine h_aload_n (pc' := 14) rfl rfl rfl ?_
            refine h_getI (pc' := 17) (v := σ1 66 8) rfl rfl rfl rfl rfl esq296_7 (fun z366 hz366 => ?_)
            refine h_iload_n (pc' := 18) rfl rfl rfl ?_
            refine h_iast (pc' := 19) rfl rfl rfl rfl hz366 (by omega) (by omega) hx1 (h_fgt (E := fun s => s 64 2 = sq296 64 2 ∧ s 64 4 = sq296 64 4 ∧ s 64 3 = sq296 64 3 ∧ s 64 5 = sq296 64 5 ∧ s 63 2 = sq296 63 2 ∧ s 63 3 = sq296 63 3 ∧ s 64 1 = σ1 64 1 ∧ s 66 8 = σ1 66 8 ∧ s 66 9 = σ1 66 9 ∧ s 66 10 = σ1 66 10 ∧ s 69 2 = σ1 69 2 ∧ s 72 2 = σ1 72 2 ∧ s 63 5 = σ1 63 5 ∧ s = h_up sq296 67 (σ1 66 8) a1) _ (in_67 Isq296 (by omega)) (Fsq296.up rfl) ⟨rfl, rfl, rfl, rfl, rfl, rfl, esq296_6, esq296_7, esq296_8, esq296_9, esq296_10, esq296_11, esq296_12, rfl⟩ (fun s367 Is367 Fs367 (es367 : s367 64 2 = sq296 64 2 ∧ s367 64 4 = sq296 64 4 ∧ s367 64 3 = sq296 64 3 ∧ s367 64 5 = sq296 64 5 ∧ s367 63 2 = sq296 63 2 ∧ s367 63 3 = sq296 63 3 ∧ s367 64 1 = σ1 64 1 ∧ s367 66 8 = σ1 66 8 ∧ s367 66 9 = σ1 66 9 ∧ s367 66 10 = σ1 66 10 ∧ s367 69 2 = σ1 69 2 ∧ s367 72 2 = σ1 72 2 ∧ s367 63 5 = σ1 63 5 ∧ s367 = h_up sq296 67 (σ1 66 8) a1) => ?_))
            clear hz366
            refine h_aload_n (pc' := 20) rfl rfl rfl ?_
            refine h_getR (pc' := 23) rfl rfl rfl rfl rfl ?_
            refine h_aload_n (pc' := 24) rfl rfl rfl ?_
            refine h_getI (pc' := 27) (v := σ1 66 8) rfl rfl rfl rfl rfl es367.2.2.2.2.2.2.2.1 (fun z368 hz368 => ?_)
            refine h_iload_n (pc' := 28) rfl rfl rfl ?_
            refine h_iast (pc' := 29) rfl rfl rfl rfl hz368 (by omega) (by omega) hq296x (h_fgt (E := fun s => s 64 2 = sq296 64 2 ∧ s 64 4 = sq296 64 4 ∧ s 64 3 = sq296 64 3 ∧ s 64 5 = sq296 64 5 ∧ s 63 2 = sq296 63 2 ∧ s 63 3 = sq296 63 3 ∧ s 64 1 = σ1 64 1 ∧ s 66 8 = σ1 66 8 ∧ s 66 9 = σ1 66 9 ∧ s 66 10 = σ1 66 10 ∧ s 69 2 = σ1 69 2 ∧ s 72 2 = σ1 72 2 ∧ s 63 5 = σ1 63 5 ∧ s = h_up s367 68 (σ1 66 8) bq296x) _ (in_68 Is367 (by omega)) (Fs367.up rfl) ⟨es367.1, es367.2.1, es367.2.2.1, es367.2.2.2.1, es367.2.2.2.2.1, es367.2.2.2.2.2.1, es367.2.2.2.2.2.2.1, es367.2.2.2.2.2.2.2.1, es367.2.2.2.2.2.2.2.2.1, es367.2.2.2.2.2.2.2.2.2.1, es367.2.2.2.2.2.2.2.2.2.2.1, es367.2.2.2.2.2.2.2.2.2.2.2.1, es367.2.2.2.2.2.2.2.2.2.2.2.2.1, rfl⟩ (fun s369 Is369 Fs369 (es369 : s369 64 2 = sq296 64 2 ∧ s369 64 4 = sq296 64 4 ∧ s369 64 3 = sq296 64 3 ∧ s369 64 5 = sq296 64 5 ∧ s369 63 2 = sq296 63 2 ∧ s369 63 3 = sq296 63 3 ∧ s369 64 1 = σ1 64 1 ∧ s369 66 8 = σ1 66 8 ∧ s369 66 9 = σ1 66 9 ∧ s369 66 10 = σ1 66 10 ∧ s369 69 2 = σ1 69 2 ∧ s369 72 2 = σ1 72 2 ∧ s369 63 5 = σ1 63 5 ∧ s369 = h_up s367 68 (σ1 66 8) bq296x) => ?_))
            clear hz368
            refine h_aload_n (pc' := 30) rfl rfl rfl ?_
            refine h_dup (pc' := 31) rfl rfl rfl ?_
            refine h_getI (pc' := 34) (v := σ1 66 8) rfl rfl rfl rfl rfl es369.2.2.2.2.2.2.2.1 (fun z370 hz370 => ?_)
            refine h_iconst (pc' := 35) (x := (Int32.ofInt 1)) rfl rfl rfl ?_
            refine h_iadd (pc' := 36) rfl rfl hz370 ci_1 rfl (by omega) (by omega) (fun z371 hz371 => ?_)
            clear hz370
            refine h_put (pc' := 39) rfl rfl rfl rfl rfl rfl hz371 rfl (h_fgt (E := fun s => s 64 2 = sq296 64 2 ∧ s 64 4 = sq296 64 4 ∧ s 64 3 = sq296 64 3 ∧ s 64 5 = sq296 64 5 ∧ s 63 2 = sq296 63 2 ∧ s 63 3 = sq296 63 3 ∧ s 64 1 = σ1 64 1 ∧ s 66 8 = ((σ1 66 8) + 1) ∧ s 66 9 = σ1 66 9 ∧ s 66 10 = σ1 66 10 ∧ s 69 2 = σ1 69 2 ∧ s 72 2 = σ1 72 2 ∧ s 63 5 = σ1 63 5 ∧ s = h_up s369 66 8 ((σ1 66 8) + 1)) _ (if_66_8 Is369 (by omega)) (Fs369.up rfl) ⟨es369.1, es369.2.1, es369.2.2.1, es369.2.2.2.1, es369.2.2.2.2.1, es369.2.2.2.2.2.1, es369.2.2.2.2.2.2.1, rfl, es369.2.2.2.2.2.2.2.2.1, es369.2.2.2.2.2.2.2.2.2.1, es369.2.2.2.2.2.2.2.2.2.2.1, es369.2.2.2.2.2.2.2.2.2.2.2.1, es369.2.2.2.2.2.2.2.2.2.2.2.2.1, rfl⟩ (fun s372 Is372 Fs372 (es372 : s372 64 2 = sq296 64 2 ∧ s372 64 4 = sq296 64 4 ∧ s372 64 3 = sq296 64 3 ∧ s372 64 5 = sq296 64 5 ∧ s372 63 2 = sq296 63 2 ∧ s372 63 3 = sq296 63 3 ∧ s372 64 1 = σ1 64 1 ∧ s372 66 8 = ((σ1 66 8) + 1) ∧ s372 66 9 = σ1 66 9 ∧ s372 66 10 = σ1 66 10 ∧ s372 69 2 = σ1 69 2 ∧ s372 72 2 = σ1 72 2 ∧ s372 63 5 = σ1 63 5 ∧ s372 = h_up s369 66 8 ((σ1 66 8) + 1)) => ?_))
            refine h_vret rfl rfl (h_Kn ?_)
            refine h_vret rfl rfl (d_retn hlv1 ?_)
            clear hq296x
            exact h_wk [(0, .ref 63)] ⟨rfl, trivial⟩ (kx0 _ _ Is372 Is360 Fs372 Fs360 (by omega) (by omega) (by omega) (by omega) (by omega) (fun _ => d_mk (es372.2.2.2.2.2.2.2.1) (es372.2.2.2.2.2.2.2.2.1) (es372.2.2.2.2.2.2.2.2.2.1) (es372.2.2.2.2.2.2.2.2.2.2.1) (es372.2.2.2.2.2.2.2.2.2.2.2.1) (es372.2.2.2.2.2.2.2.2.2.2.2.2.1) (fun j => (h_upo es372.2.2.2.2.2.2.2.2.2.2.2.2.2 rfl j).trans ((h_upo es369.2.2.2.2.2.2.2.2.2.2.2.2.2 rfl j).trans ((h_upi es367.2.2.2.2.2.2.2.2.2.2.2.2.2 j).trans (congrArg (fun z => if j = (σ1 66 8) then a1 else z) ((Gsq296 67 j rfl).trans ((Gsq210 67 j rfl))))))) (fun j => (h_upo es372.2.2.2.2.2.2.2.2.2.2.2.2.2 rfl j).trans ((h_upi es369.2.2.2.2.2.2.2.2.2.2.2.2.2 j).trans (congrArg (fun z => if j = (σ1 66 8) then bq296x else z) ((h_upo es367.2.2.2.2.2.2.2.2.2.2.2.2.2 rfl j).trans ((Gsq296 68 j rfl).trans ((Gsq210 68 j rfl))))))) (fun j => (h_upo es372.2.2.2.2.2.2.2.2.2.2.2.2.2 rfl j).trans ((h_upo es369.2.2.2.2.2.2.2.2.2.2.2.2.2 rfl j).trans ((h_upo es367.2.2.2.2.2.2.2.2.2.2.2.2.2 rfl j).trans ((Gsq296 70 j rfl).trans ((Gsq210 70 j rfl)))))) (fun j => (h_upo es372.2.2.2.2.2.2.2.2.2.2.2.2.2 rfl j).trans ((h_upo es369.2.2.2.2.2.2.2.2.2.2.2.2.2 rfl j).trans ((h_upo es367.2.2.2.2.2.2.2.2.2.2.2.2.2 rfl j).trans ((Gsq296 71 j rfl).trans ((Gsq210 71 j rfl)))))) (fun j => (h_upo es372.2.2.2.2.2.2.2.2.2.2.2.2.2 rfl j).trans ((h_upo es369.2.2.2.2.2.2.2.2.2.2.2.2.2 rfl j).trans ((h_upo es367.2.2.2.2.2.2.2.2.2.2.2.2.2 rfl j).trans ((Gsq296 73 j rfl).trans ((Gsq210 73 j rfl)))))) (fun j => (h_upo es372.2.2.2.2.2.2.2.2.2.2.2.2.2 rfl j).trans ((h_upo es369.2.2.2.2.2.2.2.2.2.2.2.2.2 rfl j).trans ((h_upo es367.2.2.2.2.2.2.2.2.2.2.2.2.2 rfl j).trans ((Gsq296 74 j rfl).trans ((Gsq210 74 j rfl)))))) (fun j => (h_upo es372.2.2.2.2.2.2.2.2.2.2.2.2.2 rfl j).trans ((h_upo es369.2.2.2.2.2.2.2.2.2.2.2.2.2 rfl j).trans ((h_upo es367.2.2.2.2.2.2.2.2.2.2.2.2.2 rfl j).trans ((Gsq296 75 j rfl).trans ((Gsq210 75 j rfl)))))) (fun j => (h_upo es372.2.2.2.2.2.2.2.2.2.2.2.2.2 rfl j).trans ((h_upo es369.2.2.2.2.2.2.2.2.2.2.2.2.2 rfl j).trans ((h_upo es367.2.2.2.2.2.2.2.2.2.2.2.2.2 rfl j).trans ((Gsq296 76 j rfl).trans ((Gsq210 76 j rfl)))))) (fun j => (h_upo es372.2.2.2.2.2.2.2.2.2.2.2.2.2 rfl j).trans ((h_upo es369.2.2.2.2.2.2.2.2.2.2.2.2.2 rfl j).trans ((h_upo es367.2.2.2.2.2.2.2.2.2.2.2.2.2 rfl j).trans ((Gsq296 77 j rfl).trans ((Gsq210 77 j rfl)))))) (fun j => (h_upo es372.2.2.2.2.2.2.2.2.2.2.2.2.2 rfl j).trans ((h_upo es369.2.2.2.2.2.2.2.2.2.2.2.2.2 rfl j).trans ((h_upo es367.2.2.2.2.2.2.2.2.2.2.2.2.2 rfl j).trans ((Gsq296 78 j rfl).trans ((Gsq210 78 j rfl)))))) (es360.2.2.2.2.2.2.1) (es360.2.2.2.2.2.2.2.1) (es360.2.2.2.2.2.2.2.2.1) (es360.2.2.2.2.2.2.2.2.2.1) (es360.2.2.2.2.2.2.2.2.2.2.1) (fun j => (h_upo es360.2.2.2.2.2.2.2.2.2.2.2.2.2.2 rfl j).trans ((h_upi es357.2.2.2.2.2.2.2.2.2.2.2.2.2.2 j).trans (congrArg (fun z => if j = (6 + (σ2 98 5)) then (bq296m + 1) else z) ((Gtq296 101 j rfl).trans ((h_upi es280.2.2.2.2.2.2.2.2.2.2.2.2.2.2 j).trans (congrArg (fun z => if j = (σ2 98 5) then c1 else z) ((Gtq210 101 j rfl).trans ((h_upo es209.2.2.2.2.2.2.2.2.2.2.2.2.2.2 rfl j))))))))) (r_one1 pr12 (by omega) (by omega) (by omega) (by omega) (by omega) (by omega) (by omega) (by omega) (by omega) (by omega))) (Or.inr (Or.inr (Or.inr (Or.inr ⟨by omega, by omega, by omega, by omega, by omega, by omega⟩)))) _ _ (h_al_ok ⟨rfl, trivial⟩ hlw361) hRw361)
        · show h_T g_P (g_Y ns) 154 132 [(0, .ref 98), (1, .int y1)] [] tq210 _
          refine h_aload_n (pc' := 133) rfl rfl rfl ?_
          refine h_getI (pc' := 136) (v := tq210 98 13) rfl rfl rfl rfl rfl rfl (fun z373 hz373 => ?_)
          have tz373 := tf_98_13 Itq210
          refine h_zle (tg := 140) (pc' := 139) rfl rfl rfl hz373 (fun c374 => ?_) (fun c374 => absurd c374 (by omega))
          clear hz373
          refine h_aload_n (pc' := 141) rfl rfl rfl ?_
          refine h_iload_n (pc' := 142) rfl rfl rfl ?_
          refine d_call (g_inj ns) (pc' := 145) (m := 153) (M := [(0, .ref 98), (1, .int y1)]) (rest := []) ⟨false, _, _, _, _, _, _, rfl, rfl, rfl, rfl, rfl, rfl, rfl⟩ (fun lv375 hlv375 => ?_)
          refine h_iload_n (pc' := 1) rfl rfl rfl ?_
          refine h_iconst (pc' := 2) (x := (Int32.ofInt 3)) rfl rfl rfl ?_
          refine h_cgt (tg := 61) (pc' := 5) rfl rfl rfl hy1 ci_3 (fun c376 => absurd c376 (by omega)) (fun c376 => ?_)
          refine h_aload_n (pc' := 6) rfl rfl rfl ?_
          refine h_getR (pc' := 9) rfl rfl rfl rfl rfl ?_
          refine h_aload_n (pc' := 10) rfl rfl rfl ?_
          refine h_getI (pc' := 13) (v := σ2 98 5) rfl rfl rfl rfl rfl etq210_6 (fun z377 hz377 => ?_)
          refine h_iload_n (pc' := 14) rfl rfl rfl ?_
          refine h_iast (pc' := 15) rfl rfl rfl rfl hz377 (by omega) (by omega) hy1 (h_fgt (E := fun s => s 98 15 = tq210 98 15 ∧ s 98 16 = tq210 98 16 ∧ s 98 17 = tq210 98 17 ∧ s 98 18 = tq210 98 18 ∧ s 98 13 = tq210 98 13 ∧ s 98 14 = tq210 98 14 ∧ s 98 5 = σ2 98 5 ∧ s 98 6 = σ2 98 6 ∧ s 98 7 = 0 ∧ s 98 8 = σ2 98 8 ∧ s 98 9 = σ2 98 9 ∧ s 101 18 = σ2 101 18 ∧ s 101 25 = σ2 101 25 ∧ s 101 43 = σ2 101 43 ∧ s = h_up tq210 101 (σ2 98 5) c1) _ (ip_101_0 Itq210 (by omega) (by omega)) (Ftq210.up rfl) ⟨rfl, rfl, rfl, rfl, rfl, rfl, etq210_6, etq210_7, etq210_8, etq210_9, etq210_10, h_up_n2 (by omega) etq210_11, h_up_n2 (by omega) etq210_12, h_up_n2 (by omega) etq210_13, rfl⟩ (fun s378 Is378 Fs378 (es378 : s378 98 15 = tq210 98 15 ∧ s378 98 16 = tq210 98 16 ∧ s378 98 17 = tq210 98 17 ∧ s378 98 18 = tq210 98 18 ∧ s378 98 13 = tq210 98 13 ∧ s378 98 14 = tq210 98 14 ∧ s378 98 5 = σ2 98 5 ∧ s378 98 6 = σ2 98 6 ∧ s378 98 7 = 0 ∧ s378 98 8 = σ2 98 8 ∧ s378 98 9 = σ2 98 9 ∧ s378 101 18 = σ2 101 18 ∧ s378 101 25 = σ2 101 25 ∧ s378 101 43 = σ2 101 43 ∧ s378 = h_up tq210 101 (σ2 98 5) c1) => ?_))
          clear hz377
          refine h_aload_n (pc' := 16) rfl rfl rfl ?_
          refine h_getI (pc' := 19) (v := tq210 98 17) rfl rfl rfl rfl rfl es378.2.2.1 (fun z379 hz379 => ?_)
          have tz379 := tf_98_17 Itq210
          refine h_iconst (pc' := 20) (x := (Int32.ofInt 2)) rfl rfl rfl ?_
          refine h_cne (tg := 48) (pc' := 23) rfl rfl rfl hz379 ci_2 (fun c380 => ?_) (fun c380 => absurd c380 (by omega))
          clear hz379
          refine h_aload_n (pc' := 49) rfl rfl rfl ?_
          refine h_dup (pc' := 50) rfl rfl rfl ?_
          refine h_getI (pc' := 53) (v := σ2 98 5) rfl rfl rfl rfl rfl es378.2.2.2.2.2.2.1 (fun z381 hz381 => ?_)
          refine h_iconst (pc' := 54) (x := (Int32.ofInt 1)) rfl rfl rfl ?_
          refine h_iadd (pc' := 55) rfl rfl hz381 ci_1 rfl (by omega) (by omega) (fun z382 hz382 => ?_)
          clear hz381
          refine h_put (pc' := 58) rfl rfl rfl rfl rfl rfl hz382 rfl (h_fgt (E := fun s => s 98 15 = tq210 98 15 ∧ s 98 16 = tq210 98 16 ∧ s 98 17 = tq210 98 17 ∧ s 98 18 = tq210 98 18 ∧ s 98 13 = tq210 98 13 ∧ s 98 14 = tq210 98 14 ∧ s 98 5 = ((σ2 98 5) + 1) ∧ s 98 6 = σ2 98 6 ∧ s 98 7 = 0 ∧ s 98 8 = σ2 98 8 ∧ s 98 9 = σ2 98 9 ∧ s 101 18 = σ2 101 18 ∧ s 101 25 = σ2 101 25 ∧ s 101 43 = σ2 101 43 ∧ s = h_up s378 98 5 ((σ2 98 5) + 1)) _ (if_98_5 Is378 (by omega)) (Fs378.up rfl) ⟨es378.1, es378.2.1, es378.2.2.1, es378.2.2.2.1, es378.2.2.2.2.1, es378.2.2.2.2.2.1, rfl, es378.2.2.2.2.2.2.2.1, es378.2.2.2.2.2.2.2.2.1, es378.2.2.2.2.2.2.2.2.2.1, es378.2.2.2.2.2.2.2.2.2.2.1, es378.2.2.2.2.2.2.2.2.2.2.2.1, es378.2.2.2.2.2.2.2.2.2.2.2.2.1, es378.2.2.2.2.2.2.2.2.2.2.2.2.2.1, rfl⟩ (fun s383 Is383 Fs383 (es383 : s383 98 15 = tq210 98 15 ∧ s383 98 16 = tq210 98 16 ∧ s383 98 17 = tq210 98 17 ∧ s383 98 18 = tq210 98 18 ∧ s383 98 13 = tq210 98 13 ∧ s383 98 14 = tq210 98 14 ∧ s383 98 5 = ((σ2 98 5) + 1) ∧ s383 98 6 = σ2 98 6 ∧ s383 98 7 = 0 ∧ s383 98 8 = σ2 98 8 ∧ s383 98 9 = σ2 98 9 ∧ s383 101 18 = σ2 101 18 ∧ s383 101 25 = σ2 101 25 ∧ s383 101 43 = σ2 101 43 ∧ s383 = h_up s378 98 5 ((σ2 98 5) + 1)) => ?_))
          refine h_goto (pc' := 178) rfl rfl ?_
          refine h_vret rfl rfl (d_retn hlv375 ?_)
          refine d_toL (g_inj ns) hlw6 hRq210 (fun lvw384 memw384 hlw384 hRw384 => ?_)
          show h_T g_P (g_Y ns) 57 20 [(0, .ref 63), (1, .int (Int32.ofInt 0))] [] sq210 _
          refine h_vret rfl rfl (d_retn hlv4 ?_)
          refine h_aload_n (pc' := 22) rfl rfl rfl ?_
          refine h_call (sp := false) (pc' := 25) (M := [(0, .ref 63)]) rfl rfl rfl rfl rfl rfl rfl rfl ?_
          refine h_aload_n (pc' := 1) rfl rfl rfl ?_
          refine h_getI (pc' := 4) (v := sq210 63 2) rfl rfl rfl rfl rfl rfl (fun z385 hz385 => ?_)
          have tz385 := tf_63_2 Isq210
          refine h_zne (tg := 22) (pc' := 7) rfl rfl rfl hz385 (fun c386 => absurd c386 (by omega)) (fun c386 => ?_)
          clear hz385
          refine h_aload_n (pc' := 8) rfl rfl rfl ?_
          refine h_getR (pc' := 11) rfl rfl rfl rfl rfl ?_
          refine h_getI (pc' := 14) (v := sq210 64 3) rfl rfl rfl rfl rfl rfl (fun z387 hz387 => ?_)
          have tz387 := tf_64_3 Isq210
          refine h_iconst (pc' := 15) (x := (Int32.ofInt 2)) rfl rfl rfl ?_
          refine h_cne (tg := 22) (pc' := 18) rfl rfl rfl hz387 ci_2 (fun c388 => ?_) (fun c388 => absurd c388 (by omega))
          clear hz387
          refine h_iconst (pc' := 23) (x := (Int32.ofInt 0)) rfl rfl rfl ?_
          refine h_zret rfl rfl ci_0 (by omega) (h_Kv ?_)
          refine h_zeq (tg := 44) (pc' := 28) rfl rfl rfl ci_0 (fun c389 => ?_) (fun c389 => absurd c389 (by omega))
          refine h_bipush (pc' := 46) (x := (Int32.ofInt (-4))) rfl rfl cb_m4 ?_
          refine h_istore_n (pc' := 47) (M := [(2, .int (Int32.ofInt (-4))), (0, .ref 63), (1, .int x1)]) rfl rfl rfl rfl ?_
          refine h_aload_n (pc' := 48) rfl rfl rfl ?_
          refine h_getI (pc' := 51) (v := sq210 63 2) rfl rfl rfl rfl rfl rfl (fun z390 hz390 => ?_)
          refine h_zne (tg := 63) (pc' := 54) rfl rfl rfl hz390 (fun c391 => absurd c391 (by omega)) (fun c391 => ?_)
          clear hz390
          refine h_aload_n (pc' := 55) rfl rfl rfl ?_
          refine h_getR (pc' := 58) rfl rfl rfl rfl rfl ?_
          refine h_iload_n (pc' := 59) rfl rfl rfl ?_
          refine h_iload_n (pc' := 60) rfl rfl rfl ?_
          refine h_call (sp := false) (pc' := 63) (M := [(0, .ref 66), (1, .int x1), (2, .int (Int32.ofInt (-4)))]) rfl rfl rfl rfl rfl rfl rfl rfl ?_
          refine h_aload_n (pc' := 1) rfl rfl rfl ?_
          refine h_getI (pc' := 4) (v := σ1 66 8) rfl rfl rfl rfl rfl esq210_7 (fun z392 hz392 => ?_)
          refine h_bipush (pc' := 6) (x := (Int32.ofInt 6)) rfl rfl cb_6 ?_
          refine h_cge (tg := 39) (pc' := 9) rfl rfl rfl hz392 ci_6 (fun c393 => absurd c393 (by omega)) (fun c393 => ?_)
          clear hz392
          refine h_aload_n (pc' := 10) rfl rfl rfl ?_
          refine h_getR (pc' := 13) rfl rfl rfl rfl rfl ?_
          refine h_aload_n (pc' := 14) rfl rfl rfl ?_
          refine h_getI (pc' := 17) (v := σ1 66 8) rfl rfl rfl rfl rfl esq210_7 (fun z394 hz394 => ?_)
          refine h_iload_n (pc' := 18) rfl rfl rfl ?_
          refine h_iast (pc' := 19) rfl rfl rfl rfl hz394 (by omega) (by omega) hx1 (h_fgt (E := fun s => s 64 2 = sq210 64 2 ∧ s 64 4 = sq210 64 4 ∧ s 64 3 = sq210 64 3 ∧ s 64 5 = sq210 64 5 ∧ s 63 2 = sq210 63 2 ∧ s 63 3 = sq210 63 3 ∧ s 64 1 = σ1 64 1 ∧ s 66 8 = σ1 66 8 ∧ s 66 9 = σ1 66 9 ∧ s 66 10 = σ1 66 10 ∧ s 69 2 = σ1 69 2 ∧ s 72 2 = σ1 72 2 ∧ s 63 5 = σ1 63 5 ∧ s = h_up sq210 67 (σ1 66 8) a1) _ (in_67 Isq210 (by omega)) (Fsq210.up rfl) ⟨rfl, rfl, rfl, rfl, rfl, rfl, esq210_6, esq210_7, esq210_8, esq210_9, esq210_10, esq210_11, esq210_12, rfl⟩ (fun s395 Is395 Fs395 (es395 : s395 64 2 = sq210 64 2 ∧ s395 64 4 = sq210 64 4 ∧ s395 64 3 = sq210 64 3 ∧ s395 64 5 = sq210 64 5 ∧ s395 63 2 = sq210 63 2 ∧ s395 63 3 = sq210 63 3 ∧ s395 64 1 = σ1 64 1 ∧ s395 66 8 = σ1 66 8 ∧ s395 66 9 = σ1 66 9 ∧ s395 66 10 = σ1 66 10 ∧ s395 69 2 = σ1 69 2 ∧ s395 72 2 = σ1 72 2 ∧ s395 63 5 = σ1 63 5 ∧ s395 = h_up sq210 67 (σ1 66 8) a1) => ?_))
          clear hz394
          refine h_aload_n (pc' := 20) rfl rfl rfl ?_
          refine h_getR (pc' := 23) rfl rfl rfl rfl rfl ?_
          refine h_aload_n (pc' := 24) rfl rfl rfl ?_
          refine h_getI (pc' := 27) (v := σ1 66 8) rfl rfl rfl rfl rfl es395.2.2.2.2.2.2.2.1 (fun z396 hz396 => ?_)
          refine h_iload_n (pc' := 28) rfl rfl rfl ?_
          refine h_iast (pc' := 29) rfl rfl rfl rfl hz396 (by omega) (by omega) ci_m4 (h_fgt (E := fun s => s 64 2 = sq210 64 2 ∧ s 64 4 = sq210 64 4 ∧ s 64 3 = sq210 64 3 ∧ s 64 5 = sq210 64 5 ∧ s 63 2 = sq210 63 2 ∧ s 63 3 = sq210 63 3 ∧ s 64 1 = σ1 64 1 ∧ s 66 8 = σ1 66 8 ∧ s 66 9 = σ1 66 9 ∧ s 66 10 = σ1 66 10 ∧ s 69 2 = σ1 69 2 ∧ s 72 2 = σ1 72 2 ∧ s 63 5 = σ1 63 5 ∧ s = h_up s395 68 (σ1 66 8) (-4)) _ (in_68 Is395 (by omega)) (Fs395.up rfl) ⟨es395.1, es395.2.1, es395.2.2.1, es395.2.2.2.1, es395.2.2.2.2.1, es395.2.2.2.2.2.1, es395.2.2.2.2.2.2.1, es395.2.2.2.2.2.2.2.1, es395.2.2.2.2.2.2.2.2.1, es395.2.2.2.2.2.2.2.2.2.1, es395.2.2.2.2.2.2.2.2.2.2.1, es395.2.2.2.2.2.2.2.2.2.2.2.1, es395.2.2.2.2.2.2.2.2.2.2.2.2.1, rfl⟩ (fun s397 Is397 Fs397 (es397 : s397 64 2 = sq210 64 2 ∧ s397 64 4 = sq210 64 4 ∧ s397 64 3 = sq210 64 3 ∧ s397 64 5 = sq210 64 5 ∧ s397 63 2 = sq210 63 2 ∧ s397 63 3 = sq210 63 3 ∧ s397 64 1 = σ1 64 1 ∧ s397 66 8 = σ1 66 8 ∧ s397 66 9 = σ1 66 9 ∧ s397 66 10 = σ1 66 10 ∧ s397 69 2 = σ1 69 2 ∧ s397 72 2 = σ1 72 2 ∧ s397 63 5 = σ1 63 5 ∧ s397 = h_up s395 68 (σ1 66 8) (-4)) => ?_))
          clear hz396
          refine h_aload_n (pc' := 30) rfl rfl rfl ?_
          refine h_dup (pc' := 31) rfl rfl rfl ?_
          refine h_getI (pc' := 34) (v := σ1 66 8) rfl rfl rfl rfl rfl es397.2.2.2.2.2.2.2.1 (fun z398 hz398 => ?_)
          refine h_iconst (pc' := 35) (x := (Int32.ofInt 1)) rfl rfl rfl ?_
          refine h_iadd (pc' := 36) rfl rfl hz398 ci_1 rfl (by omega) (by omega) (fun z399 hz399 => ?_)
          clear hz398
          refine h_put (pc' := 39) rfl rfl rfl rfl rfl rfl hz399 rfl (h_fgt (E := fun s => s 64 2 = sq210 64 2 ∧ s 64 4 = sq210 64 4 ∧ s 64 3 = sq210 64 3 ∧ s 64 5 = sq210 64 5 ∧ s 63 2 = sq210 63 2 ∧ s 63 3 = sq210 63 3 ∧ s 64 1 = σ1 64 1 ∧ s 66 8 = ((σ1 66 8) + 1) ∧ s 66 9 = σ1 66 9 ∧ s 66 10 = σ1 66 10 ∧ s 69 2 = σ1 69 2 ∧ s 72 2 = σ1 72 2 ∧ s 63 5 = σ1 63 5 ∧ s = h_up s397 66 8 ((σ1 66 8) + 1)) _ (if_66_8 Is397 (by omega)) (Fs397.up rfl) ⟨es397.1, es397.2.1, es397.2.2.1, es397.2.2.2.1, es397.2.2.2.2.1, es397.2.2.2.2.2.1, es397.2.2.2.2.2.2.1, rfl, es397.2.2.2.2.2.2.2.2.1, es397.2.2.2.2.2.2.2.2.2.1, es397.2.2.2.2.2.2.2.2.2.2.1, es397.2.2.2.2.2.2.2.2.2.2.2.1, es397.2.2.2.2.2.2.2.2.2.2.2.2.1, rfl⟩ (fun s400 Is400 Fs400 (es400 : s400 64 2 = sq210 64 2 ∧ s400 64 4 = sq210 64 4 ∧ s400 64 3 = sq210 64 3 ∧ s400 64 5 = sq210 64 5 ∧ s400 63 2 = sq210 63 2 ∧ s400 63 3 = sq210 63 3 ∧ s400 64 1 = σ1 64 1 ∧ s400 66 8 = ((σ1 66 8) + 1) ∧ s400 66 9 = σ1 66 9 ∧ s400 66 10 = σ1 66 10 ∧ s400 69 2 = σ1 69 2 ∧ s400 72 2 = σ1 72 2 ∧ s400 63 5 = σ1 63 5 ∧ s400 = h_up s397 66 8 ((σ1 66 8) + 1)) => ?_))
          refine h_vret rfl rfl (h_Kn ?_)
          refine h_vret rfl rfl (d_retn hlv1 ?_)
          exact h_wk [(0, .ref 63)] ⟨rfl, trivial⟩ (kx0 _ _ Is400 Is383 Fs400 Fs383 (by omega) (by omega) (by omega) (by omega) (by omega) (fun _ => d_mk (es400.2.2.2.2.2.2.2.1) (es400.2.2.2.2.2.2.2.2.1) (es400.2.2.2.2.2.2.2.2.2.1) (es400.2.2.2.2.2.2.2.2.2.2.1) (es400.2.2.2.2.2.2.2.2.2.2.2.1) (es400.2.2.2.2.2.2.2.2.2.2.2.2.1) (fun j => (h_upo es400.2.2.2.2.2.2.2.2.2.2.2.2.2 rfl j).trans ((h_upo es397.2.2.2.2.2.2.2.2.2.2.2.2.2 rfl j).trans ((h_upi es395.2.2.2.2.2.2.2.2.2.2.2.2.2 j).trans (congrArg (fun z => if j = (σ1 66 8) then a1 else z) ((Gsq210 67 j rfl)))))) (fun j => (h_upo es400.2.2.2.2.2.2.2.2.2.2.2.2.2 rfl j).trans ((h_upi es397.2.2.2.2.2.2.2.2.2.2.2.2.2 j).trans (congrArg (fun z => if j = (σ1 66 8) then (-4) else z) ((h_upo es395.2.2.2.2.2.2.2.2.2.2.2.2.2 rfl j).trans ((Gsq210 68 j rfl)))))) (fun j => (h_upo es400.2.2.2.2.2.2.2.2.2.2.2.2.2 rfl j).trans ((h_upo es397.2.2.2.2.2.2.2.2.2.2.2.2.2 rfl j).trans ((h_upo es395.2.2.2.2.2.2.2.2.2.2.2.2.2 rfl j).trans ((Gsq210 70 j rfl))))) (fun j => (h_upo es400.2.2.2.2.2.2.2.2.2.2.2.2.2 rfl j).trans ((h_upo es397.2.2.2.2.2.2.2.2.2.2.2.2.2 rfl j).trans ((h_upo es395.2.2.2.2.2.2.2.2.2.2.2.2.2 rfl j).trans ((Gsq210 71 j rfl))))) (fun j => (h_upo es400.2.2.2.2.2.2.2.2.2.2.2.2.2 rfl j).trans ((h_upo es397.2.2.2.2.2.2.2.2.2.2.2.2.2 rfl j).trans ((h_upo es395.2.2.2.2.2.2.2.2.2.2.2.2.2 rfl j).trans ((Gsq210 73 j rfl))))) (fun j => (h_upo es400.2.2.2.2.2.2.2.2.2.2.2.2.2 rfl j).trans ((h_upo es397.2.2.2.2.2.2.2.2.2.2.2.2.2 rfl j).trans ((h_upo es395.2.2.2.2.2.2.2.2.2.2.2.2.2 rfl j).trans ((Gsq210 74 j rfl))))) (fun j => (h_upo es400.2.2.2.2.2.2.2.2.2.2.2.2.2 rfl j).trans ((h_upo es397.2.2.2.2.2.2.2.2.2.2.2.2.2 rfl j).trans ((h_upo es395.2.2.2.2.2.2.2.2.2.2.2.2.2 rfl j).trans ((Gsq210 75 j rfl))))) (fun j => (h_upo es400.2.2.2.2.2.2.2.2.2.2.2.2.2 rfl j).trans ((h_upo es397.2.2.2.2.2.2.2.2.2.2.2.2.2 rfl j).trans ((h_upo es395.2.2.2.2.2.2.2.2.2.2.2.2.2 rfl j).trans ((Gsq210 76 j rfl))))) (fun j => (h_upo es400.2.2.2.2.2.2.2.2.2.2.2.2.2 rfl j).trans ((h_upo es397.2.2.2.2.2.2.2.2.2.2.2.2.2 rfl j).trans ((h_upo es395.2.2.2.2.2.2.2.2.2.2.2.2.2 rfl j).trans ((Gsq210 77 j rfl))))) (fun j => (h_upo es400.2.2.2.2.2.2.2.2.2.2.2.2.2 rfl j).trans ((h_upo es397.2.2.2.2.2.2.2.2.2.2.2.2.2 rfl j).trans ((h_upo es395.2.2.2.2.2.2.2.2.2.2.2.2.2 rfl j).trans ((Gsq210 78 j rfl))))) (es383.2.2.2.2.2.2.1) (es383.2.2.2.2.2.2.2.1) (es383.2.2.2.2.2.2.2.2.1) (es383.2.2.2.2.2.2.2.2.2.1) (es383.2.2.2.2.2.2.2.2.2.2.1) (fun j => (h_upo es383.2.2.2.2.2.2.2.2.2.2.2.2.2.2 rfl j).trans ((h_upi es378.2.2.2.2.2.2.2.2.2.2.2.2.2.2 j).trans (congrArg (fun z => if j = (σ2 98 5) then c1 else z) ((Gtq210 101 j rfl).trans ((h_upo es209.2.2.2.2.2.2.2.2.2.2.2.2.2.2 rfl j)))))) (r_one0 pr12 (by omega) (by omega) (by omega) (by omega) (by omega) (by omega) (by omega))) (Or.inr (Or.inr (Or.inr (Or.inr ⟨by omega, by omega, by omega, by omega, by omega, by omega⟩)))) _ _ (h_al_ok ⟨rfl, trivial⟩ hlw384) hRw384)
    · clear hz2
      refine h_iconst (pc' := 14) (x := (Int32.ofInt 1)) rfl rfl rfl ?_
      refine h_goto (pc' := 18) rfl rfl ?_
      refine d_call (g_inj ns) (pc' := 21) (m := 57) (M := [(0, .ref 63), (1, .int (Int32.ofInt 1))]) (rest := []) ⟨false, _, _, _, _, _, _, rfl, rfl, rfl, rfl, rfl, rfl, rfl⟩ (fun lv401 hlv401 => ?_)
      refine h_iload_n (pc' := 1) rfl rfl rfl ?_
      refine h_zeq (tg := 16) (pc' := 4) rfl rfl rfl ci_1 (fun c402 => absurd c402 (by omega)) (fun c402 => ?_)
      refine h_aload_n (pc' := 5) rfl rfl rfl ?_
      refine h_iconst (pc' := 6) (x := (Int32.ofInt 5)) rfl rfl rfl ?_
      refine h_aload_n (pc' := 7) rfl rfl rfl ?_
      refine h_getR (pc' := 10) rfl rfl rfl rfl rfl ?_
      refine h_getI (pc' := 13) (v := σ1 64 4) rfl rfl rfl rfl rfl rfl (fun z403 hz403 => ?_)
      have tz403 := tf_64_4 hI1
      refine h_call (sp := false) (pc' := 16) (M := [(0, .ref 63), (1, .int (Int32.ofInt 5)), (2, .int z403)]) rfl rfl rfl rfl rfl rfl rfl rfl ?_
      refine h_aload_n (pc' := 1) rfl rfl rfl ?_
      refine h_getI (pc' := 4) (v := σ1 63 2) rfl rfl rfl rfl rfl rfl (fun z404 hz404 => ?_)
      have tz404 := tf_63_2 hI1
      refine h_zne (tg := 17) (pc' := 7) rfl rfl rfl hz404 (fun c405 => absurd c405 (by omega)) (fun c405 => ?_)
      clear hz404
      refine h_aload_n (pc' := 8) rfl rfl rfl ?_
      refine h_iload_n (pc' := 9) rfl rfl rfl ?_
      refine h_put (pc' := 12) rfl rfl rfl rfl rfl rfl ci_5 rfl (h_fgt (E := fun s => s 64 2 = σ1 64 2 ∧ s 64 4 = σ1 64 4 ∧ s 64 3 = σ1 64 3 ∧ s 64 5 = σ1 64 5 ∧ s 63 2 = 5 ∧ s 63 3 = σ1 63 3 ∧ s 64 1 = σ1 64 1 ∧ s 66 8 = σ1 66 8 ∧ s 66 9 = σ1 66 9 ∧ s 66 10 = σ1 66 10 ∧ s 69 2 = σ1 69 2 ∧ s 72 2 = σ1 72 2 ∧ s 63 5 = σ1 63 5 ∧ s = h_up σ1 63 2 5) _ (if_63_2 hI1 (by omega)) (F1.up rfl) ⟨rfl, rfl, rfl, rfl, rfl, rfl, rfl, rfl, rfl, rfl, rfl, rfl, rfl, rfl⟩ (fun s406 Is406 Fs406 (es406 : s406 64 2 = σ1 64 2 ∧ s406 64 4 = σ1 64 4 ∧ s406 64 3 = σ1 64 3 ∧ s406 64 5 = σ1 64 5 ∧ s406 63 2 = 5 ∧ s406 63 3 = σ1 63 3 ∧ s406 64 1 = σ1 64 1 ∧ s406 66 8 = σ1 66 8 ∧ s406 66 9 = σ1 66 9 ∧ s406 66 10 = σ1 66 10 ∧ s406 69 2 = σ1 69 2 ∧ s406 72 2 = σ1 72 2 ∧ s406 63 5 = σ1 63 5 ∧ s406 = h_up σ1 63 2 5) => ?_))
      refine h_aload_n (pc' := 13) rfl rfl rfl ?_
      refine h_iload_n (pc' := 14) rfl rfl rfl ?_
      refine h_put (pc' := 17) rfl rfl rfl rfl rfl rfl hz403 rfl (h_fgt (E := fun s => s 64 2 = σ1 64 2 ∧ s 64 4 = σ1 64 4 ∧ s 64 3 = σ1 64 3 ∧ s 64 5 = σ1 64 5 ∧ s 63 2 = 5 ∧ s 63 3 = (σ1 64 4) ∧ s 64 1 = σ1 64 1 ∧ s 66 8 = σ1 66 8 ∧ s 66 9 = σ1 66 9 ∧ s 66 10 = σ1 66 10 ∧ s 69 2 = σ1 69 2 ∧ s 72 2 = σ1 72 2 ∧ s 63 5 = σ1 63 5 ∧ s = h_up s406 63 3 (σ1 64 4)) _ (if_63_3 Is406 (h_rgv hz403)) (Fs406.up rfl) ⟨es406.1, es406.2.1, es406.2.2.1, es406.2.2.2.1, es406.2.2.2.2.1, rfl, es406.2.2.2.2.2.2.1, es406.2.2.2.2.2.2.2.1, es406.2.2.2.2.2.2.2.2.1, es406.2.2.2.2.2.2.2.2.2.1, es406.2.2.2.2.2.2.2.2.2.2.1, es406.2.2.2.2.2.2.2.2.2.2.2.1, es406.2.2.2.2.2.2.2.2.2.2.2.2.1, rfl⟩ (fun s407 Is407 Fs407 (es407 : s407 64 2 = σ1 64 2 ∧ s407 64 4 = σ1 64 4 ∧ s407 64 3 = σ1 64 3 ∧ s407 64 5 = σ1 64 5 ∧ s407 63 2 = 5 ∧ s407 63 3 = (σ1 64 4) ∧ s407 64 1 = σ1 64 1 ∧ s407 66 8 = σ1 66 8 ∧ s407 66 9 = σ1 66 9 ∧ s407 66 10 = σ1 66 10 ∧ s407 69 2 = σ1 69 2 ∧ s407 72 2 = σ1 72 2 ∧ s407 63 5 = σ1 63 5 ∧ s407 = h_up s406 63 3 (σ1 64 4)) => ?_))
      refine h_vret rfl rfl (h_Kn ?_)
      refine h_aload_n (pc' := 17) rfl rfl rfl ?_
      refine d_toM (g_inj ns) hl2 hR2 (fun lvw408 memw408 hlw408 hRw408 => ?_)
      show h_T g_P (g_Y ns) 154 23 [(0, .ref 98), (1, .int y1)] [] σ2 _
      refine h_iload_n (pc' := 24) rfl rfl rfl ?_
      refine h_iconst (pc' := 25) (x := (Int32.ofInt 3)) rfl rfl rfl ?_
      refine h_cgt (tg := 37) (pc' := 28) rfl rfl rfl hy1 ci_3 (fun c409 => absurd c409 (by omega)) (fun c409 => ?_)
      refine h_aload_n (pc' := 29) rfl rfl rfl ?_
      refine h_getI (pc' := 32) (v := σ2 98 5) rfl rfl rfl rfl rfl rfl (fun z410 hz410 => ?_)
      have tz410 := tf_98_5 hI2
      refine h_bipush (pc' := 34) (x := (Int32.ofInt 6)) rfl rfl cb_6 ?_
      refine h_ceq (tg := 83) (pc' := 37) rfl rfl rfl hz410 ci_6 (fun c411 => ?_) (fun c411 => absurd c411 (by omega))
      clear hz410
      refine h_aload_n (pc' := 84) rfl rfl rfl ?_
      refine h_iconst (pc' := 85) (x := (Int32.ofInt 5)) rfl rfl rfl ?_
      refine h_call (sp := false) (pc' := 88) (M := [(0, .ref 98), (1, .int (Int32.ofInt 5))]) rfl rfl rfl rfl rfl rfl rfl rfl ?_
      refine h_aload_n (pc' := 1) rfl rfl rfl ?_
      refine h_getI (pc' := 4) (v := σ2 98 13) rfl rfl rfl rfl rfl rfl (fun z412 hz412 => ?_)
      have tz412 := tf_98_13 hI2
      refine h_zne (tg := 20) (pc' := 7) rfl rfl rfl hz412 (fun c413 => absurd c413 (by omega)) (fun c413 => ?_)
      clear hz412
      refine h_aload_n (pc' := 8) rfl rfl rfl ?_
      refine h_iload_n (pc' := 9) rfl rfl rfl ?_
      refine h_put (pc' := 12) rfl rfl rfl rfl rfl rfl ci_5 rfl (h_fgt (E := fun s => s 98 15 = σ2 98 15 ∧ s 98 16 = σ2 98 16 ∧ s 98 17 = σ2 98 17 ∧ s 98 18 = σ2 98 18 ∧ s 98 13 = 5 ∧ s 98 14 = σ2 98 14 ∧ s 98 5 = σ2 98 5 ∧ s 98 6 = σ2 98 6 ∧ s 98 7 = σ2 98 7 ∧ s 98 8 = σ2 98 8 ∧ s 98 9 = σ2 98 9 ∧ s 101 18 = σ2 101 18 ∧ s 101 25 = σ2 101 25 ∧ s 101 43 = σ2 101 43 ∧ s = h_up σ2 98 13 5) _ (if_98_13 hI2 (by omega)) (F2.up rfl) ⟨rfl, rfl, rfl, rfl, rfl, rfl, rfl, rfl, rfl, rfl, rfl, rfl, rfl, rfl, rfl⟩ (fun s414 Is414 Fs414 (es414 : s414 98 15 = σ2 98 15 ∧ s414 98 16 = σ2 98 16 ∧ s414 98 17 = σ2 98 17 ∧ s414 98 18 = σ2 98 18 ∧ s414 98 13 = 5 ∧ s414 98 14 = σ2 98 14 ∧ s414 98 5 = σ2 98 5 ∧ s414 98 6 = σ2 98 6 ∧ s414 98 7 = σ2 98 7 ∧ s414 98 8 = σ2 98 8 ∧ s414 98 9 = σ2 98 9 ∧ s414 101 18 = σ2 101 18 ∧ s414 101 25 = σ2 101 25 ∧ s414 101 43 = σ2 101 43 ∧ s414 = h_up σ2 98 13 5) => ?_))
      refine h_aload_n (pc' := 13) rfl rfl rfl ?_
      refine h_aload_n (pc' := 14) rfl rfl rfl ?_
      refine h_getI (pc' := 17) (v := σ2 98 16) rfl rfl rfl rfl rfl es414.2.1 (fun z415 hz415 => ?_)
      have tz415 := tf_98_16 hI2
      refine h_put (pc' := 20) rfl rfl rfl rfl rfl rfl hz415 rfl (h_fgt (E := fun s => s 98 15 = σ2 98 15 ∧ s 98 16 = σ2 98 16 ∧ s 98 17 = σ2 98 17 ∧ s 98 18 = σ2 98 18 ∧ s 98 13 = 5 ∧ s 98 14 = (σ2 98 16) ∧ s 98 5 = σ2 98 5 ∧ s 98 6 = σ2 98 6 ∧ s 98 7 = σ2 98 7 ∧ s 98 8 = σ2 98 8 ∧ s 98 9 = σ2 98 9 ∧ s 101 18 = σ2 101 18 ∧ s 101 25 = σ2 101 25 ∧ s 101 43 = σ2 101 43 ∧ s = h_up s414 98 14 (σ2 98 16)) _ (if_98_14 Is414 (h_rgv hz415)) (Fs414.up rfl) ⟨es414.1, es414.2.1, es414.2.2.1, es414.2.2.2.1, es414.2.2.2.2.1, rfl, es414.2.2.2.2.2.2.1, es414.2.2.2.2.2.2.2.1, es414.2.2.2.2.2.2.2.2.1, es414.2.2.2.2.2.2.2.2.2.1, es414.2.2.2.2.2.2.2.2.2.2.1, es414.2.2.2.2.2.2.2.2.2.2.2.1, es414.2.2.2.2.2.2.2.2.2.2.2.2.1, es414.2.2.2.2.2.2.2.2.2.2.2.2.2.1, rfl⟩ (fun s416 Is416 Fs416 (es416 : s416 98 15 = σ2 98 15 ∧ s416 98 16 = σ2 98 16 ∧ s416 98 17 = σ2 98 17 ∧ s416 98 18 = σ2 98 18 ∧ s416 98 13 = 5 ∧ s416 98 14 = (σ2 98 16) ∧ s416 98 5 = σ2 98 5 ∧ s416 98 6 = σ2 98 6 ∧ s416 98 7 = σ2 98 7 ∧ s416 98 8 = σ2 98 8 ∧ s416 98 9 = σ2 98 9 ∧ s416 101 18 = σ2 101 18 ∧ s416 101 25 = σ2 101 25 ∧ s416 101 43 = σ2 101 43 ∧ s416 = h_up s414 98 14 (σ2 98 16)) => ?_))
      refine h_vret rfl rfl (h_Kn ?_)
      refine h_iload_n (pc' := 89) rfl rfl rfl ?_
      refine h_bipush (pc' := 91) (x := (Int32.ofInt 7)) rfl rfl cb_7 ?_
      refine h_cne (tg := 106) (pc' := 94) rfl rfl rfl hy1 ci_7 (fun c417 => ?_) (fun c417 => absurd c417 (by omega))
      refine h_aload_n (pc' := 107) rfl rfl rfl ?_
      refine h_aload_n (pc' := 108) rfl rfl rfl ?_
      refine h_getI (pc' := 111) (v := σ2 98 7) rfl rfl rfl rfl rfl es416.2.2.2.2.2.2.2.2.1 (fun z418 hz418 => ?_)
      have tz418 := tf_98_7 hI2
      refine h_zne (tg := 120) (pc' := 114) rfl rfl rfl hz418 (fun c419 => ?_) (fun c419 => ?_)
      · clear hz418
        refine h_iconst (pc' := 121) (x := (Int32.ofInt 1)) rfl rfl rfl ?_
        refine h_goto (pc' := 125) rfl rfl ?_
        refine h_put (pc' := 128) rfl rfl rfl rfl rfl rfl ci_1 (h_fb ci_1 (by omega)) (h_fgt (E := fun s => s 98 15 = σ2 98 15 ∧ s 98 16 = σ2 98 16 ∧ s 98 17 = σ2 98 17 ∧ s 98 18 = σ2 98 18 ∧ s 98 13 = 5 ∧ s 98 14 = (σ2 98 16) ∧ s 98 5 = σ2 98 5 ∧ s 98 6 = σ2 98 6 ∧ s 98 7 = 1 ∧ s 98 8 = σ2 98 8 ∧ s 98 9 = σ2 98 9 ∧ s 101 18 = σ2 101 18 ∧ s 101 25 = σ2 101 25 ∧ s 101 43 = σ2 101 43 ∧ s = h_up s416 98 7 1) _ (if_98_7 Is416 (by omega)) (Fs416.up rfl) ⟨es416.1, es416.2.1, es416.2.2.1, es416.2.2.2.1, es416.2.2.2.2.1, es416.2.2.2.2.2.1, es416.2.2.2.2.2.2.1, es416.2.2.2.2.2.2.2.1, rfl, es416.2.2.2.2.2.2.2.2.2.1, es416.2.2.2.2.2.2.2.2.2.2.1, es416.2.2.2.2.2.2.2.2.2.2.2.1, es416.2.2.2.2.2.2.2.2.2.2.2.2.1, es416.2.2.2.2.2.2.2.2.2.2.2.2.2.1, rfl⟩ (fun s420 Is420 Fs420 (es420 : s420 98 15 = σ2 98 15 ∧ s420 98 16 = σ2 98 16 ∧ s420 98 17 = σ2 98 17 ∧ s420 98 18 = σ2 98 18 ∧ s420 98 13 = 5 ∧ s420 98 14 = (σ2 98 16) ∧ s420 98 5 = σ2 98 5 ∧ s420 98 6 = σ2 98 6 ∧ s420 98 7 = 1 ∧ s420 98 8 = σ2 98 8 ∧ s420 98 9 = σ2 98 9 ∧ s420 101 18 = σ2 101 18 ∧ s420 101 25 = σ2 101 25 ∧ s420 101 43 = σ2 101 43 ∧ s420 = h_up s416 98 7 1) => ?_))
        refine h_aload_n (pc' := 129) rfl rfl rfl ?_
        refine d_pcall (g_inj ns) (m1 := 54) (pc1' := 20) (M1 := [(0, .ref 63)]) (rest1 := []) (m2 := 148) (pc2' := 132) (M2 := [(0, .ref 98)]) (rest2 := []) ⟨false, _, _, _, _, _, _, rfl, rfl, rfl, rfl, rfl, rfl, rfl⟩ ⟨false, _, _, _, _, _, _, rfl, rfl, rfl, rfl, rfl, rfl, rfl⟩ hRw408 ?_
        refine pp_step Is407 Is420 (hTL.fr (Fs407.mono rfl) (Fs420.mono rfl)) (by omega) (by omega) (by omega) (by omega) (Or.inl ⟨by omega, by omega, by omega⟩) (fun sq421 tq421 Isq421 Itq421 Gsq421 Gtq421 yq421_0 yq421_1 yq421_2 yq421_3 yq421_4 pcq421 memq421 hRq421 => ?_)
        have Fsq421 := (Gsq421.mono (B := k_px) rfl).tr Fs407
        have Ftq421 := (Gtq421.mono (B := k_pm) rfl).tr Fs420
        have esq421_6 : sq421 64 1 = σ1 64 1 := (Gsq421 64 1 rfl).trans es407.2.2.2.2.2.2.1
        have esq421_7 : sq421 66 8 = σ1 66 8 := (Gsq421 66 8 rfl).trans es407.2.2.2.2.2.2.2.1
        have esq421_8 : sq421 66 9 = σ1 66 9 := (Gsq421 66 9 rfl).trans es407.2.2.2.2.2.2.2.2.1
        have esq421_9 : sq421 66 10 = σ1 66 10 := (Gsq421 66 10 rfl).trans es407.2.2.2.2.2.2.2.2.2.1
        have esq421_10 : sq421 69 2 = σ1 69 2 := (Gsq421 69 2 rfl).trans es407.2.2.2.2.2.2.2.2.2.2.1
        have esq421_11 : sq421 72 2 = σ1 72 2 := (Gsq421 72 2 rfl).trans es407.2.2.2.2.2.2.2.2.2.2.2.1
        have esq421_12 : sq421 63 5 = σ1 63 5 := (Gsq421 63 5 rfl).trans es407.2.2.2.2.2.2.2.2.2.2.2.2.1
        have etq421_6 : tq421 98 5 = σ2 98 5 := (Gtq421 98 5 rfl).trans es420.2.2.2.2.2.2.1
        have etq421_7 : tq421 98 6 = σ2 98 6 := (Gtq421 98 6 rfl).trans es420.2.2.2.2.2.2.2.1
        have etq421_8 : tq421 98 7 = 1 := (Gtq421 98 7 rfl).trans es420.2.2.2.2.2.2.2.2.1
        have etq421_9 : tq421 98 8 = σ2 98 8 := (Gtq421 98 8 rfl).trans es420.2.2.2.2.2.2.2.2.2.1
        have etq421_10 : tq421 98 9 = σ2 98 9 := (Gtq421 98 9 rfl).trans es420.2.2.2.2.2.2.2.2.2.2.1
        have etq421_11 : tq421 101 18 = σ2 101 18 := (Gtq421 101 18 rfl).trans es420.2.2.2.2.2.2.2.2.2.2.2.1
        have etq421_12 : tq421 101 25 = σ2 101 25 := (Gtq421 101 25 rfl).trans es420.2.2.2.2.2.2.2.2.2.2.2.2.1
        have etq421_13 : tq421 101 43 = σ2 101 43 := (Gtq421 101 43 rfl).trans es420.2.2.2.2.2.2.2.2.2.2.2.2.2.1
        rcases pcq421 with pcq421 | pcq421 | pcq421 | pcq421 | pcq421
        · show h_T g_P (g_Y ns) 154 132 [(0, .ref 98), (1, .int y1)] [] tq421 _
          clear hz403 hz415
          refine h_aload_n (pc' := 133) rfl rfl rfl ?_
          refine h_getI (pc' := 136) (v := tq421 98 13) rfl rfl rfl rfl rfl rfl (fun z422 hz422 => ?_)
          have tz422 := tf_98_13 Itq421
          refine h_zle (tg := 140) (pc' := 139) rfl rfl rfl hz422 (fun c423 => absurd c423 (by omega)) (fun c423 => ?_)
          clear hz422
          refine d_toL (g_inj ns) hlw408 hRq421 (fun lvw424 memw424 hlw424 hRw424 => ?_)
          show h_T g_P (g_Y ns) 57 20 [(0, .ref 63), (1, .int (Int32.ofInt 1))] [] sq421 _
          refine h_vret rfl rfl (d_retn hlv401 ?_)
          refine h_aload_n (pc' := 22) rfl rfl rfl ?_
          refine h_call (sp := false) (pc' := 25) (M := [(0, .ref 63)]) rfl rfl rfl rfl rfl rfl rfl rfl ?_
          refine h_aload_n (pc' := 1) rfl rfl rfl ?_
          refine h_getI (pc' := 4) (v := sq421 63 2) rfl rfl rfl rfl rfl rfl (fun z425 hz425 => ?_)
          have tz425 := tf_63_2 Isq421
          refine h_zne (tg := 22) (pc' := 7) rfl rfl rfl hz425 (fun c426 => ?_) (fun c426 => absurd c426 (by omega))
          clear hz425
          refine h_iconst (pc' := 23) (x := (Int32.ofInt 0)) rfl rfl rfl ?_
          refine h_zret rfl rfl ci_0 (by omega) (h_Kv ?_)
          refine h_zeq (tg := 44) (pc' := 28) rfl rfl rfl ci_0 (fun c427 => ?_) (fun c427 => absurd c427 (by omega))
          refine h_bipush (pc' := 46) (x := (Int32.ofInt (-4))) rfl rfl cb_m4 ?_
          refine h_istore_n (pc' := 47) (M := [(2, .int (Int32.ofInt (-4))), (0, .ref 63), (1, .int x1)]) rfl rfl rfl rfl ?_
          refine h_aload_n (pc' := 48) rfl rfl rfl ?_
          refine h_getI (pc' := 51) (v := sq421 63 2) rfl rfl rfl rfl rfl rfl (fun z428 hz428 => ?_)
          refine h_zne (tg := 63) (pc' := 54) rfl rfl rfl hz428 (fun c429 => ?_) (fun c429 => absurd c429 (by omega))
          clear hz428
          refine h_vret rfl rfl (d_retn hlv1 ?_)
          exact h_wk [(0, .ref 63)] ⟨rfl, trivial⟩ (kx1 _ _ Isq421 Itq421 Fsq421 Ftq421 (by omega) (by omega) (by omega) (by omega) (by omega) ⟨by omega, by omega, by omega, by omega⟩ _ _ (h_al_ok ⟨rfl, trivial⟩ hlw424) hRw424)
        · exfalso; omega
        · exfalso; omega
        · exfalso; omega
        · exfalso; omega
      · clear hz418
        refine h_iload_n (pc' := 115) rfl rfl rfl ?_
        refine h_bipush (pc' := 117) (x := (Int32.ofInt 7)) rfl rfl cb_7 ?_
        refine h_cne (tg := 124) (pc' := 120) rfl rfl rfl hy1 ci_7 (fun c430 => ?_) (fun c430 => absurd c430 (by omega))
        refine h_iconst (pc' := 125) (x := (Int32.ofInt 0)) rfl rfl rfl ?_
        refine h_put (pc' := 128) rfl rfl rfl rfl rfl rfl ci_0 (h_fb ci_0 (by omega)) (h_fgt (E := fun s => s 98 15 = σ2 98 15 ∧ s 98 16 = σ2 98 16 ∧ s 98 17 = σ2 98 17 ∧ s 98 18 = σ2 98 18 ∧ s 98 13 = 5 ∧ s 98 14 = (σ2 98 16) ∧ s 98 5 = σ2 98 5 ∧ s 98 6 = σ2 98 6 ∧ s 98 7 = 0 ∧ s 98 8 = σ2 98 8 ∧ s 98 9 = σ2 98 9 ∧ s 101 18 = σ2 101 18 ∧ s 101 25 = σ2 101 25 ∧ s 101 43 = σ2 101 43 ∧ s = h_up s416 98 7 0) _ (if_98_7 Is416 (by omega)) (Fs416.up rfl) ⟨es416.1, es416.2.1, es416.2.2.1, es416.2.2.2.1, es416.2.2.2.2.1, es416.2.2.2.2.2.1, es416.2.2.2.2.2.2.1, es416.2.2.2.2.2.2.2.1, rfl, es416.2.2.2.2.2.2.2.2.2.1, es416.2.2.2.2.2.2.2.2.2.2.1, es416.2.2.2.2.2.2.2.2.2.2.2.1, es416.2.2.2.2.2.2.2.2.2.2.2.2.1, es416.2.2.2.2.2.2.2.2.2.2.2.2.2.1, rfl⟩ (fun s431 Is431 Fs431 (es431 : s431 98 15 = σ2 98 15 ∧ s431 98 16 = σ2 98 16 ∧ s431 98 17 = σ2 98 17 ∧ s431 98 18 = σ2 98 18 ∧ s431 98 13 = 5 ∧ s431 98 14 = (σ2 98 16) ∧ s431 98 5 = σ2 98 5 ∧ s431 98 6 = σ2 98 6 ∧ s431 98 7 = 0 ∧ s431 98 8 = σ2 98 8 ∧ s431 98 9 = σ2 98 9 ∧ s431 101 18 = σ2 101 18 ∧ s431 101 25 = σ2 101 25 ∧ s431 101 43 = σ2 101 43 ∧ s431 = h_up s416 98 7 0) => ?_))
        refine h_aload_n (pc' := 129) rfl rfl rfl ?_
        refine d_pcall (g_inj ns) (m1 := 54) (pc1' := 20) (M1 := [(0, .ref 63)]) (rest1 := []) (m2 := 148) (pc2' := 132) (M2 := [(0, .ref 98)]) (rest2 := []) ⟨false, _, _, _, _, _, _, rfl, rfl, rfl, rfl, rfl, rfl, rfl⟩ ⟨false, _, _, _, _, _, _, rfl, rfl, rfl, rfl, rfl, rfl, rfl⟩ hRw408 ?_
        refine pp_step Is407 Is431 (hTL.fr (Fs407.mono rfl) (Fs431.mono rfl)) (by omega) (by omega) (by omega) (by omega) (Or.inl ⟨by omega, by omega, by omega⟩) (fun sq432 tq432 Isq432 Itq432 Gsq432 Gtq432 yq432_0 yq432_1 yq432_2 yq432_3 yq432_4 pcq432 memq432 hRq432 => ?_)
        have Fsq432 := (Gsq432.mono (B := k_px) rfl).tr Fs407
        have Ftq432 := (Gtq432.mono (B := k_pm) rfl).tr Fs431
        have esq432_6 : sq432 64 1 = σ1 64 1 := (Gsq432 64 1 rfl).trans es407.2.2.2.2.2.2.1
        have esq432_7 : sq432 66 8 = σ1 66 8 := (Gsq432 66 8 rfl).trans es407.2.2.2.2.2.2.2.1
        have esq432_8 : sq432 66 9 = σ1 66 9 := (Gsq432 66 9 rfl).trans es407.2.2.2.2.2.2.2.2.1
        have esq432_9 : sq432 66 10 = σ1 66 10 := (Gsq432 66 10 rfl).trans es407.2.2.2.2.2.2.2.2.2.1
        have esq432_10 : sq432 69 2 = σ1 69 2 := (Gsq432 69 2 rfl).trans es407.2.2.2.2.2.2.2.2.2.2.1
        have esq432_11 : sq432 72 2 = σ1 72 2 := (Gsq432 72 2 rfl).trans es407.2.2.2.2.2.2.2.2.2.2.2.1
        have esq432_12 : sq432 63 5 = σ1 63 5 := (Gsq432 63 5 rfl).trans es407.2.2.2.2.2.2.2.2.2.2.2.2.1
        have etq432_6 : tq432 98 5 = σ2 98 5 := (Gtq432 98 5 rfl).trans es431.2.2.2.2.2.2.1
        have etq432_7 : tq432 98 6 = σ2 98 6 := (Gtq432 98 6 rfl).trans es431.2.2.2.2.2.2.2.1
        have etq432_8 : tq432 98 7 = 0 := (Gtq432 98 7 rfl).trans es431.2.2.2.2.2.2.2.2.1
        have etq432_9 : tq432 98 8 = σ2 98 8 := (Gtq432 98 8 rfl).trans es431.2.2.2.2.2.2.2.2.2.1
        have etq432_10 : tq432 98 9 = σ2 98 9 := (Gtq432 98 9 rfl).trans es431.2.2.2.2.2.2.2.2.2.2.1
        have etq432_11 : tq432 101 18 = σ2 101 18 := (Gtq432 101 18 rfl).trans es431.2.2.2.2.2.2.2.2.2.2.2.1
        have etq432_12 : tq432 101 25 = σ2 101 25 := (Gtq432 101 25 rfl).trans es431.2.2.2.2.2.2.2.2.2.2.2.2.1
        have etq432_13 : tq432 101 43 = σ2 101 43 := (Gtq432 101 43 rfl).trans es431.2.2.2.2.2.2.2.2.2.2.2.2.2.1
        rcases pcq432 with pcq432 | pcq432 | pcq432 | pcq432 | pcq432
        · show h_T g_P (g_Y ns) 154 132 [(0, .ref 98), (1, .int y1)] [] tq432 _
          clear hz403 hz415
          refine h_aload_n (pc' := 133) rfl rfl rfl ?_
          refine h_getI (pc' := 136) (v := tq432 98 13) rfl rfl rfl rfl rfl rfl (fun z433 hz433 => ?_)
          have tz433 := tf_98_13 Itq432
          refine h_zle (tg := 140) (pc' := 139) rfl rfl rfl hz433 (fun c434 => absurd c434 (by omega)) (fun c434 => ?_)
          clear hz433
          refine d_toL (g_inj ns) hlw408 hRq432 (fun lvw435 memw435 hlw435 hRw435 => ?_)
          show h_T g_P (g_Y ns) 57 20 [(0, .ref 63), (1, .int (Int32.ofInt 1))] [] sq432 _
          refine h_vret rfl rfl (d_retn hlv401 ?_)
          refine h_aload_n (pc' := 22) rfl rfl rfl ?_
          refine h_call (sp := false) (pc' := 25) (M := [(0, .ref 63)]) rfl rfl rfl rfl rfl rfl rfl rfl ?_
          refine h_aload_n (pc' := 1) rfl rfl rfl ?_
          refine h_getI (pc' := 4) (v := sq432 63 2) rfl rfl rfl rfl rfl rfl (fun z436 hz436 => ?_)
          have tz436 := tf_63_2 Isq432
          refine h_zne (tg := 22) (pc' := 7) rfl rfl rfl hz436 (fun c437 => ?_) (fun c437 => absurd c437 (by omega))
          clear hz436
          refine h_iconst (pc' := 23) (x := (Int32.ofInt 0)) rfl rfl rfl ?_
          refine h_zret rfl rfl ci_0 (by omega) (h_Kv ?_)
          refine h_zeq (tg := 44) (pc' := 28) rfl rfl rfl ci_0 (fun c438 => ?_) (fun c438 => absurd c438 (by omega))
          refine h_bipush (pc' := 46) (x := (Int32.ofInt (-4))) rfl rfl cb_m4 ?_
          refine h_istore_n (pc' := 47) (M := [(2, .int (Int32.ofInt (-4))), (0, .ref 63), (1, .int x1)]) rfl rfl rfl rfl ?_
          refine h_aload_n (pc' := 48) rfl rfl rfl ?_
          refine h_getI (pc' := 51) (v := sq432 63 2) rfl rfl rfl rfl rfl rfl (fun z439 hz439 => ?_)
          refine h_zne (tg := 63) (pc' := 54) rfl rfl rfl hz439 (fun c440 => ?_) (fun c440 => absurd c440 (by omega))
          clear hz439
          refine h_vret rfl rfl (d_retn hlv1 ?_)
          exact h_wk [(0, .ref 63)] ⟨rfl, trivial⟩ (kx1 _ _ Isq432 Itq432 Fsq432 Ftq432 (by omega) (by omega) (by omega) (by omega) (by omega) ⟨by omega, by omega, by omega, by omega⟩ _ _ (h_al_ok ⟨rfl, trivial⟩ hlw435) hRw435)
        · exfalso; omega
        · exfalso; omega
        · exfalso; omega
        · exfalso; omega
