set_option maxHeartbeats 100000000 in
theorem lp_tx {ns : Nat} {σ1 σ2 : h_S} (hI1 : h_I σ1) (hI2 : h_I σ2) (hTL : d_tape σ1 σ2) {cs1 cs2 : List d_Fr} {Q : d_Q} (kx0 : ∀ (s t : h_S), h_I s → h_I t → h_F (k_in k_px) s σ1 → h_F (k_in k_pm) t σ2 → ∀ (y1 : Int32) (c1 : Int), y1.toInt = c1 → (s 64 2 = t 98 15) → (s 64 4 = t 98 16) → (s 63 2 = t 98 13) → (s 64 2 ≤ s 64 1) → (s 63 4 = c1) → (0 ≤ c1 ∧ c1 ≤ 160) → (d_ok s t) → (((1 ≤ s 63 2 ∧ s 63 2 ≤ 6) ∧ (1 ≤ t 98 13 ∧ t 98 13 ≤ 6) ∧ (s 63 2 = t 98 13) ∧ (s 63 3 = t 98 14)) ∨ ((s 63 2 = 0) ∧ (s 64 3 = 0) ∧ (t 98 13 = 0) ∧ (t 98 17 = 0) ∧ (s 64 4 = s 64 1))) → ∀ lv2 mem2, h_loc [(0, .ref 98), (1, .int y1)] lv2 → h_R (g_Y ns) t mem2 → h_T g_P (g_Y ns) 52 83 [(0, .ref 63)] [] s (d_cs g_P (g_Y ns) cs1 (d_L g_P (g_Y ns) (155, 86, lv2, []) cs2 mem2 Q))) : ∀ (n : Nat) (s t : h_S), h_I s → h_I t → h_F (k_in k_px) s σ1 → h_F (k_in k_pm) t σ2 → ∀ (x1 : Int32) (a1 : Int), x1.toInt = a1 → ∀ (y1 : Int32) (c1 : Int), y1.toInt = c1 → (s 64 2 = t 98 15) → (s 64 4 = t 98 16) → (s 63 2 = t 98 13) → (s 64 2 ≤ s 64 1) → (s 63 4 = a1) → (a1 = c1) → (0 ≤ a1 ∧ a1 ≤ 160) → (d_ok s t) → (((1 ≤ s 63 2 ∧ s 63 2 ≤ 6) ∧ (1 ≤ t 98 13 ∧ t 98 13 ≤ 6) ∧ (s 63 2 = t 98 13) ∧ (s 63 3 = t 98 14)) ∨ ((s 63 2 = 0) ∧ (s 64 3 = 0) ∧ (t 98 13 = 0) ∧ (t 98 17 = 0) ∧ (s 64 4 = s 64 1)) ∨ ((s 63 2 = 0) ∧ (s 64 3 = 1) ∧ (t 98 13 = 0) ∧ (t 98 17 = 1) ∧ (s 64 4 < s 64 2) ∧ (a1 < s 64 2)) ∨ ((s 63 2 = 0) ∧ (s 64 3 = 2) ∧ (t 98 13 = 0) ∧ (t 98 17 = 2) ∧ (0 ≤ s 64 5 ∧ s 64 5 ≤ 99) ∧ (0 ≤ t 98 18 ∧ t 98 18 ≤ 99) ∧ (s 64 5 = t 98 18) ∧ (s 64 4 < s 64 2) ∧ (a1 < s 64 2)) ∨ ((s 63 2 = 0) ∧ (s 64 3 = 3) ∧ (t 98 13 = 0) ∧ (t 98 17 = 3) ∧ (s 64 4 < s 64 2) ∧ (a1 < s 64 2))) → 161 - a1 ≤ (n : Int) → ∀ lv2 mem2, h_loc [(0, .ref 98), (1, .int y1)] lv2 → h_R (g_Y ns) t mem2 → h_T g_P (g_Y ns) 52 35 [(0, .ref 63), (1, .int x1)] [] s (d_cs g_P (g_Y ns) cs1 (d_L g_P (g_Y ns) (155, 62, lv2, []) cs2 mem2 Q)) := by
  have hT := hTL.1
  have hL := hTL.2
  intro n
  induction n with
  | zero => intro s0 t0 I0 J0 F0_ H0_ x1 a1 hx1 y1 c1 hy1 ex0 ex1 ex2 ex3 ex4 ex5 ex6 ex7 pc0 hm lv2 mem2 hl2 hR2; have ge0 := tf_64_1 hI1; have ge1 := H0_ 98 11 rfl; have ge2 := tf_64_2 I0; have ge3 := tf_63_2 I0; have ge4 := F0_ 64 1 rfl; exfalso; omega
  | succ n ih =>
    intro s0 t0 I0 J0 F0_ H0_ x1 a1 hx1 y1 c1 hy1 ex0 ex1 ex2 ex3 ex4 ex5 ex6 ex7 pc0 hm lv2 mem2 hl2 hR2; have ge0 := tf_64_1 hI1; have ge1 := H0_ 98 11 rfl; have ge2 := tf_64_2 I0; have ge3 := tf_63_2 I0; have ge4 := F0_ 64 1 rfl
    rcases pc0 with pc0 | pc0 | pc0 | pc0 | pc0
    · show h_T g_P (g_Y ns) 52 35 [(0, .ref 63), (1, .int x1)] [] s0 _
      refine h_iload_n (pc' := 36) rfl rfl rfl ?_
      refine h_sipush (pc' := 39) (x := (Int32.ofInt 160)) rfl rfl cs_160 ?_
      refine h_cge (tg := 83) (pc' := 42) rfl rfl rfl hx1 ci_160 (fun c21 => ?_) (fun c21 => ?_)
      · refine d_toM (g_inj ns) hl2 hR2 (fun lvw22 memw22 hlw22 hRw22 => ?_)
        show h_T g_P (g_Y ns) 155 62 [(0, .ref 98), (1, .int y1)] [] t0 _
        refine h_aload_n (pc' := 63) rfl rfl rfl ?_
        refine h_getI (pc' := 66) (v := t0 98 13) rfl rfl rfl rfl rfl rfl (fun z23 hz23 => ?_)
        have tz23 := tf_98_13 J0
        refine h_zne (tg := 86) (pc' := 69) rfl rfl rfl hz23 (fun c24 => ?_) (fun c24 => absurd c24 (by omega))
        clear hz23
        refine d_toL (g_inj ns) hlw22 hRw22 (fun lvw25 memw25 hlw25 hRw25 => ?_)
        show h_T g_P (g_Y ns) 52 83 [(0, .ref 63), (1, .int x1)] [] s0 _
        exact h_wk [(0, .ref 63)] ⟨rfl, trivial⟩ (kx0 _ _ I0 J0 F0_ H0_ y1 _ hy1 (Int.le_antisymm (by omega) (by omega)) (Int.le_antisymm (by omega) (by omega)) (Int.le_antisymm (by omega) (by omega)) (by omega) (Int.le_antisymm (by omega) (by omega)) (⟨by omega, by omega⟩) (fun h => absurd h (by omega)) (Or.inl ⟨⟨by omega, by omega⟩, ⟨by omega, by omega⟩, Int.le_antisymm (by omega) (by omega), Int.le_antisymm (by omega) (by omega)⟩) _ _ (h_al_ok ⟨rfl, rfl, trivial⟩ hlw25) hRw25)
      · refine h_aload_n (pc' := 43) rfl rfl rfl ?_
        refine h_getI (pc' := 46) (v := s0 63 2) rfl rfl rfl rfl rfl rfl (fun z26 hz26 => ?_)
        have tz26 := tf_63_2 I0
        refine h_zne (tg := 83) (pc' := 49) rfl rfl rfl hz26 (fun c27 => ?_) (fun c27 => absurd c27 (by omega))
        clear hz26
        refine d_toM (g_inj ns) hl2 hR2 (fun lvw28 memw28 hlw28 hRw28 => ?_)
        show h_T g_P (g_Y ns) 155 62 [(0, .ref 98), (1, .int y1)] [] t0 _
        refine h_aload_n (pc' := 63) rfl rfl rfl ?_
        refine h_getI (pc' := 66) (v := t0 98 13) rfl rfl rfl rfl rfl rfl (fun z29 hz29 => ?_)
        have tz29 := tf_98_13 J0
        refine h_zne (tg := 86) (pc' := 69) rfl rfl rfl hz29 (fun c30 => ?_) (fun c30 => absurd c30 (by omega))
        clear hz29
        refine d_toL (g_inj ns) hlw28 hRw28 (fun lvw31 memw31 hlw31 hRw31 => ?_)
        show h_T g_P (g_Y ns) 52 83 [(0, .ref 63), (1, .int x1)] [] s0 _
        exact h_wk [(0, .ref 63)] ⟨rfl, trivial⟩ (kx0 _ _ I0 J0 F0_ H0_ y1 _ hy1 (Int.le_antisymm (by omega) (by omega)) (Int.le_antisymm (by omega) (by omega)) (Int.le_antisymm (by omega) (by omega)) (by omega) (Int.le_antisymm (by omega) (by omega)) (⟨by omega, by omega⟩) (fun h => absurd h (by omega)) (Or.inl ⟨⟨by omega, by omega⟩, ⟨by omega, by omega⟩, Int.le_antisymm (by omega) (by omega), Int.le_antisymm (by omega) (by omega)⟩) _ _ (h_al_ok ⟨rfl, rfl, trivial⟩ hlw31) hRw31)
    · show h_T g_P (g_Y ns) 52 35 [(0, .ref 63), (1, .int x1)] [] s0 _
      refine h_iload_n (pc' := 36) rfl rfl rfl ?_
      refine h_sipush (pc' := 39) (x := (Int32.ofInt 160)) rfl rfl cs_160 ?_
      refine h_cge (tg := 83) (pc' := 42) rfl rfl rfl hx1 ci_160 (fun c32 => ?_) (fun c32 => ?_)
      · refine d_toM (g_inj ns) hl2 hR2 (fun lvw33 memw33 hlw33 hRw33 => ?_)
        show h_T g_P (g_Y ns) 155 62 [(0, .ref 98), (1, .int y1)] [] t0 _
        refine h_aload_n (pc' := 63) rfl rfl rfl ?_
        refine h_getI (pc' := 66) (v := t0 98 13) rfl rfl rfl rfl rfl rfl (fun z34 hz34 => ?_)
        have tz34 := tf_98_13 J0
        refine h_zne (tg := 86) (pc' := 69) rfl rfl rfl hz34 (fun c35 => absurd (Int.le_antisymm (by omega) (by omega)) c35) (fun c35 => ?_)
        clear hz34
        refine h_aload_n (pc' := 70) rfl rfl rfl ?_
        refine h_getI (pc' := 73) (v := t0 98 17) rfl rfl rfl rfl rfl rfl (fun z36 hz36 => ?_)
        have tz36 := tf_98_17 J0
        refine h_zeq (tg := 86) (pc' := 76) rfl rfl rfl hz36 (fun c37 => ?_) (fun c37 => absurd (Int.le_antisymm (by omega) (by omega)) c37)
        clear hz36
        refine d_toL (g_inj ns) hlw33 hRw33 (fun lvw38 memw38 hlw38 hRw38 => ?_)
        show h_T g_P (g_Y ns) 52 83 [(0, .ref 63), (1, .int x1)] [] s0 _
        exact h_wk [(0, .ref 63)] ⟨rfl, trivial⟩ (kx0 _ _ I0 J0 F0_ H0_ y1 _ hy1 (Int.le_antisymm (by omega) (by omega)) (Int.le_antisymm (by omega) (by omega)) (Int.le_antisymm (by omega) (by omega)) (by omega) (Int.le_antisymm (by omega) (by omega)) (⟨by omega, by omega⟩) (ex7) (Or.inr ⟨Int.le_antisymm (by omega) (by omega), Int.le_antisymm (by omega) (by omega), Int.le_antisymm (by omega) (by omega), Int.le_antisymm (by omega) (by omega), Int.le_antisymm (by omega) (by omega)⟩) _ _ (h_al_ok ⟨rfl, rfl, trivial⟩ hlw38) hRw38)
      · refine h_aload_n (pc' := 43) rfl rfl rfl ?_
        refine h_getI (pc' := 46) (v := s0 63 2) rfl rfl rfl rfl rfl rfl (fun z39 hz39 => ?_)
        have tz39 := tf_63_2 I0
        refine h_zne (tg := 83) (pc' := 49) rfl rfl rfl hz39 (fun c40 => absurd (Int.le_antisymm (by omega) (by omega)) c40) (fun c40 => ?_)
        clear hz39
        refine h_aload_n (pc' := 50) rfl rfl rfl ?_
        refine h_getR (pc' := 53) rfl rfl rfl rfl rfl ?_
        refine h_getI (pc' := 56) (v := s0 64 3) rfl rfl rfl rfl rfl rfl (fun z41 hz41 => ?_)
        have tz41 := tf_64_3 I0
        refine h_zeq (tg := 83) (pc' := 59) rfl rfl rfl hz41 (fun c42 => ?_) (fun c42 => absurd (Int.le_antisymm (by omega) (by omega)) c42)
        clear hz41
        refine d_toM (g_inj ns) hl2 hR2 (fun lvw43 memw43 hlw43 hRw43 => ?_)
        show h_T g_P (g_Y ns) 155 62 [(0, .ref 98), (1, .int y1)] [] t0 _
        refine h_aload_n (pc' := 63) rfl rfl rfl ?_
        refine h_getI (pc' := 66) (v := t0 98 13) rfl rfl rfl rfl rfl rfl (fun z44 hz44 => ?_)
        have tz44 := tf_98_13 J0
        refine h_zne (tg := 86) (pc' := 69) rfl rfl rfl hz44 (fun c45 => absurd (Int.le_antisymm (by omega) (by omega)) c45) (fun c45 => ?_)
        clear hz44
        refine h_aload_n (pc' := 70) rfl rfl rfl ?_
        refine h_getI (pc' := 73) (v := t0 98 17) rfl rfl rfl rfl rfl rfl (fun z46 hz46 => ?_)
        have tz46 := tf_98_17 J0
        refine h_zeq (tg := 86) (pc' := 76) rfl rfl rfl hz46 (fun c47 => ?_) (fun c47 => absurd (Int.le_antisymm (by omega) (by omega)) c47)
        clear hz46
        refine d_toL (g_inj ns) hlw43 hRw43 (fun lvw48 memw48 hlw48 hRw48 => ?_)
        show h_T g_P (g_Y ns) 52 83 [(0, .ref 63), (1, .int x1)] [] s0 _
        exact h_wk [(0, .ref 63)] ⟨rfl, trivial⟩ (kx0 _ _ I0 J0 F0_ H0_ y1 _ hy1 (Int.le_antisymm (by omega) (by omega)) (Int.le_antisymm (by omega) (by omega)) (Int.le_antisymm (by omega) (by omega)) (by omega) (Int.le_antisymm (by omega) (by omega)) (⟨by omega, by omega⟩) (ex7) (Or.inr ⟨Int.le_antisymm (by omega) (by omega), Int.le_antisymm (by omega) (by omega), Int.le_antisymm (by omega) (by omega), Int.le_antisymm (by omega) (by omega), Int.le_antisymm (by omega) (by omega)⟩) _ _ (h_al_ok ⟨rfl, rfl, trivial⟩ hlw48) hRw48)
    · show h_T g_P (g_Y ns) 52 35 [(0, .ref 63), (1, .int x1)] [] s0 _
      refine h_iload_n (pc' := 36) rfl rfl rfl ?_
      refine h_sipush (pc' := 39) (x := (Int32.ofInt 160)) rfl rfl cs_160 ?_
      refine h_cge (tg := 83) (pc' := 42) rfl rfl rfl hx1 ci_160 (fun c49 => absurd c49 (by omega)) (fun c49 => ?_)
      refine h_aload_n (pc' := 43) rfl rfl rfl ?_
      refine h_getI (pc' := 46) (v := s0 63 2) rfl rfl rfl rfl rfl rfl (fun z50 hz50 => ?_)
      have tz50 := tf_63_2 I0
      refine h_zne (tg := 83) (pc' := 49) rfl rfl rfl hz50 (fun c51 => absurd (Int.le_antisymm (by omega) (by omega)) c51) (fun c51 => ?_)
      clear hz50
      refine h_aload_n (pc' := 50) rfl rfl rfl ?_
      refine h_getR (pc' := 53) rfl rfl rfl rfl rfl ?_
      refine h_getI (pc' := 56) (v := s0 64 3) rfl rfl rfl rfl rfl rfl (fun z52 hz52 => ?_)
      have tz52 := tf_64_3 I0
      refine h_zeq (tg := 83) (pc' := 59) rfl rfl rfl hz52 (fun c53 => absurd c53 (by omega)) (fun c53 => ?_)
      clear hz52
      refine h_aload_n (pc' := 60) rfl rfl rfl ?_
      refine d_call (g_inj ns) (pc' := 63) (m := 56) (M := [(0, .ref 63)]) (rest := []) ⟨false, _, _, _, _, _, _, rfl, rfl, rfl, rfl, rfl, rfl, rfl⟩ (fun lv54 hlv54 => ?_)
      refine h_aload_n (pc' := 1) rfl rfl rfl ?_
      refine h_getR (pc' := 4) rfl rfl rfl rfl rfl ?_
      refine h_getI (pc' := 7) (v := s0 64 3) rfl rfl rfl rfl rfl rfl (fun z55 hz55 => ?_)
      refine h_iconst (pc' := 8) (x := (Int32.ofInt 1)) rfl rfl rfl ?_
      refine h_cne (tg := 21) (pc' := 11) rfl rfl rfl hz55 ci_1 (fun c56 => absurd (Int.le_antisymm (by omega) (by omega)) c56) (fun c56 => ?_)
      clear hz55
      refine h_aload_n (pc' := 12) rfl rfl rfl ?_
      refine h_getR (pc' := 15) rfl rfl rfl rfl rfl ?_
      refine h_call (sp := false) (pc' := 18) (M := [(0, .ref 64)]) rfl rfl rfl rfl rfl rfl rfl rfl ?_
      refine n_whichName _ I0  (fun r57 br57 hr57 tr57 ps58_0 => h_Kv ?_)
      refine h_goto (pc' := 23) rfl rfl ?_
      refine h_istore_n (pc' := 24) (M := [(1, .int r57), (0, .ref 63)]) rfl rfl rfl rfl ?_
      refine d_toM (g_inj ns) hl2 hR2 (fun lvw59 memw59 hlw59 hRw59 => ?_)
      show h_T g_P (g_Y ns) 155 62 [(0, .ref 98), (1, .int y1)] [] t0 _
      refine h_aload_n (pc' := 63) rfl rfl rfl ?_
      refine h_getI (pc' := 66) (v := t0 98 13) rfl rfl rfl rfl rfl rfl (fun z60 hz60 => ?_)
      have tz60 := tf_98_13 J0
      refine h_zne (tg := 86) (pc' := 69) rfl rfl rfl hz60 (fun c61 => absurd (Int.le_antisymm (by omega) (by omega)) c61) (fun c61 => ?_)
      clear hz60
      refine h_aload_n (pc' := 70) rfl rfl rfl ?_
      refine h_getI (pc' := 73) (v := t0 98 17) rfl rfl rfl rfl rfl rfl (fun z62 hz62 => ?_)
      have tz62 := tf_98_17 J0
      refine h_zeq (tg := 86) (pc' := 76) rfl rfl rfl hz62 (fun c63 => absurd c63 (by omega)) (fun c63 => ?_)
      clear hz62
      refine h_aload_n (pc' := 77) rfl rfl rfl ?_
      refine d_call (g_inj ns) (pc' := 80) (m := 154) (M := [(0, .ref 98)]) (rest := []) ⟨false, _, _, _, _, _, _, rfl, rfl, rfl, rfl, rfl, rfl, rfl⟩ (fun lv64 hlv64 => ?_)
      refine h_aload_n (pc' := 1) rfl rfl rfl ?_
      refine h_call (sp := false) (pc' := 4) (M := [(0, .ref 98)]) rfl rfl rfl rfl rfl rfl rfl rfl ?_
      refine n_nameHere _ J0  (by omega) (by omega) (fun r65 br65 hr65 tr65 ps66_0 ps66_1 => h_Kv ?_)
      have ga68 := tf_64_4 I0
      have gw67 : br57 = br65 := g_word (hTL.fr (F0_.mono rfl) (H0_.mono rfl)) J0 (by omega) (by omega) (by omega) (by omega) ps58_0 (ps66_0 (by omega))
      refine h_istore_n (pc' := 5) (M := [(1, .int r65), (0, .ref 98)]) rfl rfl rfl rfl ?_
      refine d_toL (g_inj ns) hlw59 hRw59 (fun lvw69 memw69 hlw69 hRw69 => ?_)
      show h_T g_P (g_Y ns) 56 24 [(1, .int r57), (0, .ref 63)] [] s0 _
      refine h_wk [(0, .ref 63), (1, .int r57)] ⟨rfl, rfl, trivial⟩ (ls_ln I0 J0 (hTL.fr (F0_.mono rfl) (H0_.mono rfl)) r57 _ hr57 r65 _ hr65 (Int.le_antisymm (by omega) (by omega)) (Int.le_antisymm (by omega) (by omega)) (Int.le_antisymm (by omega) (by omega)) ((ex7 (by omega)).1.1) ((ex7 (by omega)).1.2.1) ((ex7 (by omega)).1.2.2.1) ((ex7 (by omega)).1.2.2.2.1) ((ex7 (by omega)).1.2.2.2.2.1) ((ex7 (by omega)).1.2.2.2.2.2.1) (by omega) (ex7 (by omega)) (Int.le_antisymm (by omega) (by omega)) (⟨by omega, by omega⟩) (g_fst_n ps58_0) ⟨Int.le_antisymm (by omega) (by omega), Int.le_antisymm (by omega) (by omega)⟩ (fun sq70 tq70 Isq70 Itq70 Gsq70 Gtq70   yq70_0 yq70_1 yq70_2 yq70_3 yq70_4 yq70_5 pcq70 lvq70 memq70 hlq70 hRq70 => ?_) (fun sq71 tq71 Isq71 Itq71 Gsq71 Gtq71   yq71_0 yq71_1 yq71_2 yq71_3 yq71_4 pcq71 lvq71 memq71 hlq71 hRq71 => ?_) (fun sq72 tq72 Isq72 Itq72 Gsq72 Gtq72   yq72_0 yq72_1 yq72_2 yq72_3 yq72_4 pcq72 lvq72 memq72 hlq72 hRq72 => ?_) _ _ (h_al_ok ⟨rfl, rfl, trivial⟩ hlw69) hRw69)
      · have Fsq70 := (Gsq70.mono (B := k_px) rfl).tr F0_
        have Ftq70 := (Gtq70.mono (B := k_pm) rfl).tr H0_
        have Isq70 := Isq70
        have Itq70 := Itq70
        have Gsq70 := Gsq70
        have Gtq70 := Gtq70
        have esq70_6 : sq70 64 1 = s0 64 1 := (Gsq70 64 1 rfl).trans rfl
        have esq70_13 : sq70 63 4 = s0 63 4 := (Gsq70 63 4 rfl).trans rfl
        rcases pcq70 with pcq70 | pcq70
        · show h_T g_P (g_Y ns) 56 180 [(0, .ref 63)] [] sq70 _
          clear hr57 hr65
          refine h_vret rfl rfl (d_retn hlv54 ?_)
          refine h_aload_n (pc' := 64) rfl rfl rfl ?_
          refine h_dup (pc' := 65) rfl rfl rfl ?_
          refine h_getI (pc' := 68) (v := s0 63 4) rfl rfl rfl rfl rfl esq70_13 (fun z73 hz73 => ?_)
          have tz73 := tf_63_4 I0
          refine h_iconst (pc' := 69) (x := (Int32.ofInt 1)) rfl rfl rfl ?_
          refine h_iadd (pc' := 70) rfl rfl hz73 ci_1 rfl (by have g0 := h_rgv hz73; omega) (by have g0 := h_rgv hz73; omega) (fun z74 hz74 => ?_)
          clear hz73
          refine h_put (pc' := 73) rfl rfl rfl rfl rfl rfl hz74 rfl (h_fgt (E := fun s => s 64 2 = sq70 64 2 ∧ s 64 4 = sq70 64 4 ∧ s 64 3 = sq70 64 3 ∧ s 64 5 = sq70 64 5 ∧ s 63 2 = sq70 63 2 ∧ s 63 3 = sq70 63 3 ∧ s 64 1 = s0 64 1 ∧ s 66 8 = sq70 66 8 ∧ s 66 9 = sq70 66 9 ∧ s 66 10 = sq70 66 10 ∧ s 69 2 = sq70 69 2 ∧ s 72 2 = sq70 72 2 ∧ s 63 5 = sq70 63 5 ∧ s 63 4 = ((s0 63 4) + 1) ∧ s = h_up sq70 63 4 ((s0 63 4) + 1)) _ (if_63_4 Isq70 (h_rgv hz74)) (Fsq70.up rfl) ⟨rfl, rfl, rfl, rfl, rfl, rfl, esq70_6, rfl, rfl, rfl, rfl, rfl, rfl, rfl, rfl⟩ (fun s75 Is75 Fs75 (es75 : s75 64 2 = sq70 64 2 ∧ s75 64 4 = sq70 64 4 ∧ s75 64 3 = sq70 64 3 ∧ s75 64 5 = sq70 64 5 ∧ s75 63 2 = sq70 63 2 ∧ s75 63 3 = sq70 63 3 ∧ s75 64 1 = s0 64 1 ∧ s75 66 8 = sq70 66 8 ∧ s75 66 9 = sq70 66 9 ∧ s75 66 10 = sq70 66 10 ∧ s75 69 2 = sq70 69 2 ∧ s75 72 2 = sq70 72 2 ∧ s75 63 5 = sq70 63 5 ∧ s75 63 4 = ((s0 63 4) + 1) ∧ s75 = h_up sq70 63 4 ((s0 63 4) + 1)) => ?_))
          have us75 := es75.2.2.2.2.2.2.2.2.2.2.2.2.2.2
          refine h_aload_n (pc' := 74) rfl rfl rfl ?_
          refine h_call (sp := false) (pc' := 77) (M := [(0, .ref 63)]) rfl rfl rfl rfl rfl rfl rfl rfl ?_
          refine h_aload_n (pc' := 1) rfl rfl rfl ?_
          refine h_getI (pc' := 4) (v := sq70 63 2) rfl rfl rfl rfl rfl es75.2.2.2.2.1 (fun z76 hz76 => ?_)
          have tz76 := tf_63_2 Isq70
          refine h_zne (tg := 37) (pc' := 7) rfl rfl rfl hz76 (fun c77 => ?_) (fun c77 => absurd c77 (by omega))
          clear hz76
          refine h_vret rfl rfl (h_Kn ?_)
          refine h_iinc (pc' := 80) (M := fun z78 => [(1, .int z78), (0, .ref 63)]) rfl rfl rfl rfl hx1 ci_1 rfl (by omega) (by omega) (fun _ => rfl) (fun z78 hz78 => ?_)
          refine h_goto (pc' := 35) rfl rfl ?_
          refine d_toM (g_inj ns) hlq70 hRq70 (fun lvw79 memw79 hlw79 hRw79 => ?_)
          show h_T g_P (g_Y ns) 154 165 [(0, .ref 98)] [] tq70 _
          refine h_aload_n (pc' := 166) rfl rfl rfl ?_
          refine h_call (sp := false) (pc' := 169) (M := [(0, .ref 98)]) rfl rfl rfl rfl rfl rfl rfl rfl ?_
          refine h_aload_n (pc' := 1) rfl rfl rfl ?_
          refine h_getI (pc' := 4) (v := tq70 98 13) rfl rfl rfl rfl rfl rfl (fun z80 hz80 => ?_)
          have tz80 := tf_98_13 Itq70
          refine h_zle (tg := 8) (pc' := 7) rfl rfl rfl hz80 (fun c81 => absurd c81 (by omega)) (fun c81 => ?_)
          clear hz80
          refine h_vret rfl rfl (h_Kn ?_)
          refine h_vret rfl rfl (d_retn hlv64 ?_)
          refine h_iinc (pc' := 83) (M := fun z82 => [(1, .int z82), (0, .ref 98)]) rfl rfl rfl rfl hy1 ci_1 rfl (by omega) (by omega) (fun _ => rfl) (fun z82 hz82 => ?_)
          refine h_goto (pc' := 62) rfl rfl ?_
          refine d_toL (g_inj ns) hlw79 hRw79 (fun lvw83 memw83 hlw83 hRw83 => ?_)
          show h_T g_P (g_Y ns) 52 35 [(1, .int z78), (0, .ref 63)] [] s75 _
          exact h_wk [(0, .ref 63), (1, .int z78)] ⟨rfl, rfl, trivial⟩ (ih _ _ Is75 Itq70 Fs75 Ftq70 z78 _ hz78 z82 _ hz82 (Int.le_antisymm (by omega) (by omega)) (Int.le_antisymm (by omega) (by omega)) (Int.le_antisymm (by omega) (by omega)) (by omega) (Int.le_antisymm (by omega) (by omega)) (Int.le_antisymm (by omega) (by omega)) (⟨by omega, by omega⟩) (fun h => absurd h (by omega)) (Or.inl ⟨⟨by omega, by omega⟩, ⟨by omega, by omega⟩, Int.le_antisymm (by omega) (by omega), Int.le_antisymm (by omega) (by omega)⟩) (by omega) _ _ (h_al_ok ⟨rfl, rfl, trivial⟩ hlw83) hRw83)
        · show h_T g_P (g_Y ns) 56 180 [(0, .ref 63)] [] sq70 _
          clear hr57 hr65
          refine h_vret rfl rfl (d_retn hlv54 ?_)
          refine h_aload_n (pc' := 64) rfl rfl rfl ?_
          refine h_dup (pc' := 65) rfl rfl rfl ?_
          refine h_getI (pc' := 68) (v := s0 63 4) rfl rfl rfl rfl rfl esq70_13 (fun z84 hz84 => ?_)
          have tz84 := tf_63_4 I0
          refine h_iconst (pc' := 69) (x := (Int32.ofInt 1)) rfl rfl rfl ?_
          refine h_iadd (pc' := 70) rfl rfl hz84 ci_1 rfl (by have g0 := h_rgv hz84; omega) (by have g0 := h_rgv hz84; omega) (fun z85 hz85 => ?_)
          clear hz84
          refine h_put (pc' := 73) rfl rfl rfl rfl rfl rfl hz85 rfl (h_fgt (E := fun s => s 64 2 = sq70 64 2 ∧ s 64 4 = sq70 64 4 ∧ s 64 3 = sq70 64 3 ∧ s 64 5 = sq70 64 5 ∧ s 63 2 = sq70 63 2 ∧ s 63 3 = sq70 63 3 ∧ s 64 1 = s0 64 1 ∧ s 66 8 = sq70 66 8 ∧ s 66 9 = sq70 66 9 ∧ s 66 10 = sq70 66 10 ∧ s 69 2 = sq70 69 2 ∧ s 72 2 = sq70 72 2 ∧ s 63 5 = sq70 63 5 ∧ s 63 4 = ((s0 63 4) + 1) ∧ s = h_up sq70 63 4 ((s0 63 4) + 1)) _ (if_63_4 Isq70 (h_rgv hz85)) (Fsq70.up rfl) ⟨rfl, rfl, rfl, rfl, rfl, rfl, esq70_6, rfl, rfl, rfl, rfl, rfl, rfl, rfl, rfl⟩ (fun s86 Is86 Fs86 (es86 : s86 64 2 = sq70 64 2 ∧ s86 64 4 = sq70 64 4 ∧ s86 64 3 = sq70 64 3 ∧ s86 64 5 = sq70 64 5 ∧ s86 63 2 = sq70 63 2 ∧ s86 63 3 = sq70 63 3 ∧ s86 64 1 = s0 64 1 ∧ s86 66 8 = sq70 66 8 ∧ s86 66 9 = sq70 66 9 ∧ s86 66 10 = sq70 66 10 ∧ s86 69 2 = sq70 69 2 ∧ s86 72 2 = sq70 72 2 ∧ s86 63 5 = sq70 63 5 ∧ s86 63 4 = ((s0 63 4) + 1) ∧ s86 = h_up sq70 63 4 ((s0 63 4) + 1)) => ?_))
          have us86 := es86.2.2.2.2.2.2.2.2.2.2.2.2.2.2
          refine h_aload_n (pc' := 74) rfl rfl rfl ?_
          refine d_toM (g_inj ns) hlq70 hRq70 (fun lvw87 memw87 hlw87 hRw87 => ?_)
          show h_T g_P (g_Y ns) 154 165 [(0, .ref 98)] [] tq70 _
          refine h_aload_n (pc' := 166) rfl rfl rfl ?_
          refine d_pcall (g_inj ns) (m1 := 54) (pc1' := 77) (M1 := [(0, .ref 63)]) (rest1 := []) (m2 := 148) (pc2' := 169) (M2 := [(0, .ref 98)]) (rest2 := []) ⟨false, _, _, _, _, _, _, rfl, rfl, rfl, rfl, rfl, rfl, rfl⟩ ⟨false, _, _, _, _, _, _, rfl, rfl, rfl, rfl, rfl, rfl, rfl⟩ hRw87 ?_
          refine pp_step Is86 Itq70 (hTL.fr (Fs86.mono rfl) (Ftq70.mono rfl)) (Int.le_antisymm (by omega) (by omega)) (Int.le_antisymm (by omega) (by omega)) (Int.le_antisymm (by omega) (by omega)) (by omega) (Or.inr ⟨Int.le_antisymm (by omega) (by omega), Int.le_antisymm (by omega) (by omega)⟩) (fun sq88 tq88 Isq88 Itq88 Gsq88 Gtq88 yq88_0 yq88_1 yq88_2 yq88_3 yq88_4 pcq88 memq88 hRq88 => ?_)
          have Fsq88 := (Gsq88.mono (B := k_px) rfl).tr Fs86
          have Ftq88 := (Gtq88.mono (B := k_pm) rfl).tr Ftq70
          have esq88_6 : sq88 64 1 = s0 64 1 := (Gsq88 64 1 rfl).trans es86.2.2.2.2.2.2.1
          have esq88_7 : sq88 66 8 = sq70 66 8 := (Gsq88 66 8 rfl).trans es86.2.2.2.2.2.2.2.1
          have esq88_8 : sq88 66 9 = sq70 66 9 := (Gsq88 66 9 rfl).trans es86.2.2.2.2.2.2.2.2.1
          have esq88_9 : sq88 66 10 = sq70 66 10 := (Gsq88 66 10 rfl).trans es86.2.2.2.2.2.2.2.2.2.1
          have esq88_10 : sq88 69 2 = sq70 69 2 := (Gsq88 69 2 rfl).trans es86.2.2.2.2.2.2.2.2.2.2.1
          have esq88_11 : sq88 72 2 = sq70 72 2 := (Gsq88 72 2 rfl).trans es86.2.2.2.2.2.2.2.2.2.2.2.1
          have esq88_12 : sq88 63 5 = sq70 63 5 := (Gsq88 63 5 rfl).trans es86.2.2.2.2.2.2.2.2.2.2.2.2.1
          have esq88_13 : sq88 63 4 = ((s0 63 4) + 1) := (Gsq88 63 4 rfl).trans es86.2.2.2.2.2.2.2.2.2.2.2.2.2.1
          have etq88_6 : tq88 98 5 = tq70 98 5 := (Gtq88 98 5 rfl).trans rfl
          have etq88_7 : tq88 98 6 = tq70 98 6 := (Gtq88 98 6 rfl).trans rfl
          have etq88_8 : tq88 98 7 = tq70 98 7 := (Gtq88 98 7 rfl).trans rfl
          have etq88_9 : tq88 98 8 = tq70 98 8 := (Gtq88 98 8 rfl).trans rfl
          have etq88_10 : tq88 98 9 = tq70 98 9 := (Gtq88 98 9 rfl).trans rfl
          have etq88_11 : tq88 101 18 = tq70 101 18 := (Gtq88 101 18 rfl).trans rfl
          have etq88_12 : tq88 101 25 = tq70 101 25 := (Gtq88 101 25 rfl).trans rfl
          have etq88_13 : tq88 101 43 = tq70 101 43 := (Gtq88 101 43 rfl).trans rfl
          show h_T g_P (g_Y ns) 154 169 [(0, .ref 98)] [] tq88 _
          refine h_vret rfl rfl (d_retn hlv64 ?_)
          refine h_iinc (pc' := 83) (M := fun z89 => [(1, .int z89), (0, .ref 98)]) rfl rfl rfl rfl hy1 ci_1 rfl (by omega) (by omega) (fun _ => rfl) (fun z89 hz89 => ?_)
          refine h_goto (pc' := 62) rfl rfl ?_
          refine d_toL (g_inj ns) hlw87 hRq88 (fun lvw90 memw90 hlw90 hRw90 => ?_)
          show h_T g_P (g_Y ns) 52 77 [(0, .ref 63), (1, .int x1)] [] sq88 _
          refine h_iinc (pc' := 80) (M := fun z91 => [(1, .int z91), (0, .ref 63)]) rfl rfl rfl rfl hx1 ci_1 rfl (by omega) (by omega) (fun _ => rfl) (fun z91 hz91 => ?_)
          refine h_goto (pc' := 35) rfl rfl ?_
          exact h_wk [(0, .ref 63), (1, .int z91)] ⟨rfl, rfl, trivial⟩ (ih _ _ Isq88 Itq88 Fsq88 Ftq88 z91 _ hz91 z89 _ hz89 (Int.le_antisymm (by omega) (by omega)) (Int.le_antisymm (by omega) (by omega)) (Int.le_antisymm (by omega) (by omega)) (by omega) (Int.le_antisymm (by omega) (by omega)) (Int.le_antisymm (by omega) (by omega)) (⟨by omega, by omega⟩) (fun _ => d_mk ((Gsq88 66 8 rfl).trans (h_upo us86 rfl 8)) ((Gsq88 66 9 rfl).trans (h_upo us86 rfl 9)) ((Gsq88 66 10 rfl).trans (h_upo us86 rfl 10)) ((Gsq88 69 2 rfl).trans (h_upo us86 rfl 2)) ((Gsq88 72 2 rfl).trans (h_upo us86 rfl 2)) ((Gsq88 63 5 rfl).trans (h_upd us86 (by decide))) (fun j => (Gsq88 67 j rfl).trans (h_upo us86 rfl j)) (fun j => (Gsq88 68 j rfl).trans (h_upo us86 rfl j)) (fun j => (Gsq88 70 j rfl).trans (h_upo us86 rfl j)) (fun j => (Gsq88 71 j rfl).trans (h_upo us86 rfl j)) (fun j => (Gsq88 73 j rfl).trans (h_upo us86 rfl j)) (fun j => (Gsq88 74 j rfl).trans (h_upo us86 rfl j)) (fun j => (Gsq88 75 j rfl).trans (h_upo us86 rfl j)) (fun j => (Gsq88 76 j rfl).trans (h_upo us86 rfl j)) (fun j => (Gsq88 77 j rfl).trans (h_upo us86 rfl j)) (fun j => (Gsq88 78 j rfl).trans (h_upo us86 rfl j)) ((Gtq88 98 5 rfl)) ((Gtq88 98 6 rfl)) ((Gtq88 98 7 rfl)) ((Gtq88 98 8 rfl)) ((Gtq88 98 9 rfl)) (fun j => (Gtq88 101 j rfl)) (yq70_5 (by omega))) (pcq88.elim (fun pcq88 => (Or.inl ⟨⟨by omega, by omega⟩, ⟨by omega, by omega⟩, Int.le_antisymm (by omega) (by omega), Int.le_antisymm (by omega) (by omega)⟩)) (fun pcq88 => (pcq88.elim (fun pcq88 => (Or.inr (Or.inl ⟨Int.le_antisymm (by omega) (by omega), Int.le_antisymm (by omega) (by omega), Int.le_antisymm (by omega) (by omega), Int.le_antisymm (by omega) (by omega), Int.le_antisymm (by omega) (by omega)⟩))) (fun pcq88 => (pcq88.elim (fun pcq88 => (Or.inr (Or.inr (Or.inl ⟨Int.le_antisymm (by omega) (by omega), Int.le_antisymm (by omega) (by omega), Int.le_antisymm (by omega) (by omega), Int.le_antisymm (by omega) (by omega), by omega, by omega⟩)))) (fun pcq88 => (pcq88.elim (fun pcq88 => (Or.inr (Or.inr (Or.inr (Or.inl ⟨Int.le_antisymm (by omega) (by omega), Int.le_antisymm (by omega) (by omega), Int.le_antisymm (by omega) (by omega), Int.le_antisymm (by omega) (by omega), ⟨by omega, by omega⟩, ⟨by omega, by omega⟩, Int.le_antisymm (by omega) (by omega), by omega, by omega⟩))))) (fun pcq88 => (Or.inr (Or.inr (Or.inr (Or.inr ⟨Int.le_antisymm (by omega) (by omega), Int.le_antisymm (by omega) (by omega), Int.le_antisymm (by omega) (by omega), Int.le_antisymm (by omega) (by omega), by omega, by omega⟩)))))))))))) (by omega) _ _ (h_al_ok ⟨rfl, rfl, trivial⟩ hlw90) hRw90)
      · have Fsq71 := (Gsq71.mono (B := k_px) rfl).tr F0_
        have Ftq71 := (Gtq71.mono (B := k_pm) rfl).tr H0_
        have Isq71 := Isq71
        have Itq71 := Itq71
        have Gsq71 := Gsq71
        have Gtq71 := Gtq71
        have esq71_6 : sq71 64 1 = s0 64 1 := (Gsq71 64 1 rfl).trans rfl
        have esq71_13 : sq71 63 4 = s0 63 4 := (Gsq71 63 4 rfl).trans rfl
        show h_T g_P (g_Y ns) 56 180 [(0, .ref 63)] [] sq71 _
        clear hr57 hr65
        refine h_vret rfl rfl (d_retn hlv54 ?_)
        refine h_aload_n (pc' := 64) rfl rfl rfl ?_
        refine h_dup (pc' := 65) rfl rfl rfl ?_
        refine h_getI (pc' := 68) (v := s0 63 4) rfl rfl rfl rfl rfl esq71_13 (fun z92 hz92 => ?_)
        have tz92 := tf_63_4 I0
        refine h_iconst (pc' := 69) (x := (Int32.ofInt 1)) rfl rfl rfl ?_
        refine h_iadd (pc' := 70) rfl rfl hz92 ci_1 rfl (by have g0 := h_rgv hz92; omega) (by have g0 := h_rgv hz92; omega) (fun z93 hz93 => ?_)
        clear hz92
        refine h_put (pc' := 73) rfl rfl rfl rfl rfl rfl hz93 rfl (h_fgt (E := fun s => s 64 2 = sq71 64 2 ∧ s 64 4 = sq71 64 4 ∧ s 64 3 = sq71 64 3 ∧ s 64 5 = sq71 64 5 ∧ s 63 2 = sq71 63 2 ∧ s 63 3 = sq71 63 3 ∧ s 64 1 = s0 64 1 ∧ s 66 8 = sq71 66 8 ∧ s 66 9 = sq71 66 9 ∧ s 66 10 = sq71 66 10 ∧ s 69 2 = sq71 69 2 ∧ s 72 2 = sq71 72 2 ∧ s 63 5 = sq71 63 5 ∧ s 63 4 = ((s0 63 4) + 1) ∧ s = h_up sq71 63 4 ((s0 63 4) + 1)) _ (if_63_4 Isq71 (h_rgv hz93)) (Fsq71.up rfl) ⟨rfl, rfl, rfl, rfl, rfl, rfl, esq71_6, rfl, rfl, rfl, rfl, rfl, rfl, rfl, rfl⟩ (fun s94 Is94 Fs94 (es94 : s94 64 2 = sq71 64 2 ∧ s94 64 4 = sq71 64 4 ∧ s94 64 3 = sq71 64 3 ∧ s94 64 5 = sq71 64 5 ∧ s94 63 2 = sq71 63 2 ∧ s94 63 3 = sq71 63 3 ∧ s94 64 1 = s0 64 1 ∧ s94 66 8 = sq71 66 8 ∧ s94 66 9 = sq71 66 9 ∧ s94 66 10 = sq71 66 10 ∧ s94 69 2 = sq71 69 2 ∧ s94 72 2 = sq71 72 2 ∧ s94 63 5 = sq71 63 5 ∧ s94 63 4 = ((s0 63 4) + 1) ∧ s94 = h_up sq71 63 4 ((s0 63 4) + 1)) => ?_))
        have us94 := es94.2.2.2.2.2.2.2.2.2.2.2.2.2.2
        refine h_aload_n (pc' := 74) rfl rfl rfl ?_
        refine h_call (sp := false) (pc' := 77) (M := [(0, .ref 63)]) rfl rfl rfl rfl rfl rfl rfl rfl ?_
        refine h_aload_n (pc' := 1) rfl rfl rfl ?_
        refine h_getI (pc' := 4) (v := sq71 63 2) rfl rfl rfl rfl rfl es94.2.2.2.2.1 (fun z95 hz95 => ?_)
        have tz95 := tf_63_2 Isq71
        refine h_zne (tg := 37) (pc' := 7) rfl rfl rfl hz95 (fun c96 => ?_) (fun c96 => absurd c96 (by omega))
        clear hz95
        refine h_vret rfl rfl (h_Kn ?_)
        refine h_iinc (pc' := 80) (M := fun z97 => [(1, .int z97), (0, .ref 63)]) rfl rfl rfl rfl hx1 ci_1 rfl (by omega) (by omega) (fun _ => rfl) (fun z97 hz97 => ?_)
        refine h_goto (pc' := 35) rfl rfl ?_
        refine d_toM (g_inj ns) hlq71 hRq71 (fun lvw98 memw98 hlw98 hRw98 => ?_)
        show h_T g_P (g_Y ns) 154 139 [(0, .ref 98)] [] tq71 _
        refine h_vret rfl rfl (d_retn hlv64 ?_)
        refine h_iinc (pc' := 83) (M := fun z99 => [(1, .int z99), (0, .ref 98)]) rfl rfl rfl rfl hy1 ci_1 rfl (by omega) (by omega) (fun _ => rfl) (fun z99 hz99 => ?_)
        refine h_goto (pc' := 62) rfl rfl ?_
        refine d_toL (g_inj ns) hlw98 hRw98 (fun lvw100 memw100 hlw100 hRw100 => ?_)
        show h_T g_P (g_Y ns) 52 35 [(1, .int z97), (0, .ref 63)] [] s94 _
        exact h_wk [(0, .ref 63), (1, .int z97)] ⟨rfl, rfl, trivial⟩ (ih _ _ Is94 Itq71 Fs94 Ftq71 z97 _ hz97 z99 _ hz99 (Int.le_antisymm (by omega) (by omega)) (Int.le_antisymm (by omega) (by omega)) (Int.le_antisymm (by omega) (by omega)) (by omega) (Int.le_antisymm (by omega) (by omega)) (Int.le_antisymm (by omega) (by omega)) (⟨by omega, by omega⟩) (fun h => absurd h (by omega)) (Or.inl ⟨⟨by omega, by omega⟩, ⟨by omega, by omega⟩, Int.le_antisymm (by omega) (by omega), Int.le_antisymm (by omega) (by omega)⟩) (by omega) _ _ (h_al_ok ⟨rfl, rfl, trivial⟩ hlw100) hRw100)
      · have Fsq72 := (Gsq72.mono (B := k_px) rfl).tr F0_
        have Ftq72 := (Gtq72.mono (B := k_pm) rfl).tr H0_
        have Isq72 := Isq72
        have Itq72 := Itq72
        have Gsq72 := Gsq72
        have Gtq72 := Gtq72
        have esq72_6 : sq72 64 1 = s0 64 1 := (Gsq72 64 1 rfl).trans rfl
        have esq72_13 : sq72 63 4 = s0 63 4 := (Gsq72 63 4 rfl).trans rfl
        show h_T g_P (g_Y ns) 56 180 [(0, .ref 63)] [] sq72 _
        clear hr57 hr65
        refine h_vret rfl rfl (d_retn hlv54 ?_)
        refine h_aload_n (pc' := 64) rfl rfl rfl ?_
        refine h_dup (pc' := 65) rfl rfl rfl ?_
        refine h_getI (pc' := 68) (v := s0 63 4) rfl rfl rfl rfl rfl esq72_13 (fun z101 hz101 => ?_)
        have tz101 := tf_63_4 I0
        refine h_iconst (pc' := 69) (x := (Int32.ofInt 1)) rfl rfl rfl ?_
        refine h_iadd (pc' := 70) rfl rfl hz101 ci_1 rfl (by have g0 := h_rgv hz101; omega) (by have g0 := h_rgv hz101; omega) (fun z102 hz102 => ?_)
        clear hz101
        refine h_put (pc' := 73) rfl rfl rfl rfl rfl rfl hz102 rfl (h_fgt (E := fun s => s 64 2 = sq72 64 2 ∧ s 64 4 = sq72 64 4 ∧ s 64 3 = sq72 64 3 ∧ s 64 5 = sq72 64 5 ∧ s 63 2 = sq72 63 2 ∧ s 63 3 = sq72 63 3 ∧ s 64 1 = s0 64 1 ∧ s 66 8 = sq72 66 8 ∧ s 66 9 = sq72 66 9 ∧ s 66 10 = sq72 66 10 ∧ s 69 2 = sq72 69 2 ∧ s 72 2 = sq72 72 2 ∧ s 63 5 = sq72 63 5 ∧ s 63 4 = ((s0 63 4) + 1) ∧ s = h_up sq72 63 4 ((s0 63 4) + 1)) _ (if_63_4 Isq72 (h_rgv hz102)) (Fsq72.up rfl) ⟨rfl, rfl, rfl, rfl, rfl, rfl, esq72_6, rfl, rfl, rfl, rfl, rfl, rfl, rfl, rfl⟩ (fun s103 Is103 Fs103 (es103 : s103 64 2 = sq72 64 2 ∧ s103 64 4 = sq72 64 4 ∧ s103 64 3 = sq72 64 3 ∧ s103 64 5 = sq72 64 5 ∧ s103 63 2 = sq72 63 2 ∧ s103 63 3 = sq72 63 3 ∧ s103 64 1 = s0 64 1 ∧ s103 66 8 = sq72 66 8 ∧ s103 66 9 = sq72 66 9 ∧ s103 66 10 = sq72 66 10 ∧ s103 69 2 = sq72 69 2 ∧ s103 72 2 = sq72 72 2 ∧ s103 63 5 = sq72 63 5 ∧ s103 63 4 = ((s0 63 4) + 1) ∧ s103 = h_up sq72 63 4 ((s0 63 4) + 1)) => ?_))
        have us103 := es103.2.2.2.2.2.2.2.2.2.2.2.2.2.2
        refine h_aload_n (pc' := 74) rfl rfl rfl ?_
        refine h_call (sp := false) (pc' := 77) (M := [(0, .ref 63)]) rfl rfl rfl rfl rfl rfl rfl rfl ?_
        refine h_aload_n (pc' := 1) rfl rfl rfl ?_
        refine h_getI (pc' := 4) (v := sq72 63 2) rfl rfl rfl rfl rfl es103.2.2.2.2.1 (fun z104 hz104 => ?_)
        have tz104 := tf_63_2 Isq72
        refine h_zne (tg := 37) (pc' := 7) rfl rfl rfl hz104 (fun c105 => ?_) (fun c105 => absurd c105 (by omega))
        clear hz104
        refine h_vret rfl rfl (h_Kn ?_)
        refine h_iinc (pc' := 80) (M := fun z106 => [(1, .int z106), (0, .ref 63)]) rfl rfl rfl rfl hx1 ci_1 rfl (by omega) (by omega) (fun _ => rfl) (fun z106 hz106 => ?_)
        refine h_goto (pc' := 35) rfl rfl ?_
        refine d_toM (g_inj ns) hlq72 hRq72 (fun lvw107 memw107 hlw107 hRw107 => ?_)
        show h_T g_P (g_Y ns) 154 22 [(0, .ref 98)] [] tq72 _
        refine h_vret rfl rfl (d_retn hlv64 ?_)
        refine h_iinc (pc' := 83) (M := fun z108 => [(1, .int z108), (0, .ref 98)]) rfl rfl rfl rfl hy1 ci_1 rfl (by omega) (by omega) (fun _ => rfl) (fun z108 hz108 => ?_)
        refine h_goto (pc' := 62) rfl rfl ?_
        refine d_toL (g_inj ns) hlw107 hRw107 (fun lvw109 memw109 hlw109 hRw109 => ?_)
        show h_T g_P (g_Y ns) 52 35 [(1, .int z106), (0, .ref 63)] [] s103 _
        exact h_wk [(0, .ref 63), (1, .int z106)] ⟨rfl, rfl, trivial⟩ (ih _ _ Is103 Itq72 Fs103 Ftq72 z106 _ hz106 z108 _ hz108 (Int.le_antisymm (by omega) (by omega)) (Int.le_antisymm (by omega) (by omega)) (Int.le_antisymm (by omega) (by omega)) (by omega) (Int.le_antisymm (by omega) (by omega)) (Int.le_antisymm (by omega) (by omega)) (⟨by omega, by omega⟩) (fun h => absurd h (by omega)) (Or.inl ⟨⟨by omega, by omega⟩, ⟨by omega, by omega⟩, Int.le_antisymm (by omega) (by omega), Int.le_antisymm (by omega) (by omega)⟩) (by omega) _ _ (h_al_ok ⟨rfl, rfl, trivial⟩ hlw109) hRw109)
    · show h_T g_P (g_Y ns) 52 35 [(0, .ref 63), (1, .int x1)] [] s0 _
      refine h_iload_n (pc' := 36) rfl rfl rfl ?_
      refine h_sipush (pc' := 39) (x := (Int32.ofInt 160)) rfl rfl cs_160 ?_
      refine h_cge (tg := 83) (pc' := 42) rfl rfl rfl hx1 ci_160 (fun c110 => absurd c110 (by omega)) (fun c110 => ?_)
      refine h_aload_n (pc' := 43) rfl rfl rfl ?_
      refine h_getI (pc' := 46) (v := s0 63 2) rfl rfl rfl rfl rfl rfl (fun z111 hz111 => ?_)
      have tz111 := tf_63_2 I0
      refine h_zne (tg := 83) (pc' := 49) rfl rfl rfl hz111 (fun c112 => absurd (Int.le_antisymm (by omega) (by omega)) c112) (fun c112 => ?_)
      clear hz111
      refine h_aload_n (pc' := 50) rfl rfl rfl ?_
      refine h_getR (pc' := 53) rfl rfl rfl rfl rfl ?_
      refine h_getI (pc' := 56) (v := s0 64 3) rfl rfl rfl rfl rfl rfl (fun z113 hz113 => ?_)
      have tz113 := tf_64_3 I0
      refine h_zeq (tg := 83) (pc' := 59) rfl rfl rfl hz113 (fun c114 => absurd c114 (by omega)) (fun c114 => ?_)
      clear hz113
      refine h_aload_n (pc' := 60) rfl rfl rfl ?_
      refine d_call (g_inj ns) (pc' := 63) (m := 56) (M := [(0, .ref 63)]) (rest := []) ⟨false, _, _, _, _, _, _, rfl, rfl, rfl, rfl, rfl, rfl, rfl⟩ (fun lv115 hlv115 => ?_)
      refine h_aload_n (pc' := 1) rfl rfl rfl ?_
      refine h_getR (pc' := 4) rfl rfl rfl rfl rfl ?_
      refine h_getI (pc' := 7) (v := s0 64 3) rfl rfl rfl rfl rfl rfl (fun z116 hz116 => ?_)
      refine h_iconst (pc' := 8) (x := (Int32.ofInt 1)) rfl rfl rfl ?_
      refine h_cne (tg := 21) (pc' := 11) rfl rfl rfl hz116 ci_1 (fun c117 => ?_) (fun c117 => absurd c117 (by omega))
      clear hz116
      refine h_bipush (pc' := 23) (x := (Int32.ofInt (-4))) rfl rfl cb_m4 ?_
      refine h_istore_n (pc' := 24) (M := [(1, .int (Int32.ofInt (-4))), (0, .ref 63)]) rfl rfl rfl rfl ?_
      refine d_toM (g_inj ns) hl2 hR2 (fun lvw118 memw118 hlw118 hRw118 => ?_)
      show h_T g_P (g_Y ns) 155 62 [(0, .ref 98), (1, .int y1)] [] t0 _
      refine h_aload_n (pc' := 63) rfl rfl rfl ?_
      refine h_getI (pc' := 66) (v := t0 98 13) rfl rfl rfl rfl rfl rfl (fun z119 hz119 => ?_)
      have tz119 := tf_98_13 J0
      refine h_zne (tg := 86) (pc' := 69) rfl rfl rfl hz119 (fun c120 => absurd (Int.le_antisymm (by omega) (by omega)) c120) (fun c120 => ?_)
      clear hz119
      refine h_aload_n (pc' := 70) rfl rfl rfl ?_
      refine h_getI (pc' := 73) (v := t0 98 17) rfl rfl rfl rfl rfl rfl (fun z121 hz121 => ?_)
      have tz121 := tf_98_17 J0
      refine h_zeq (tg := 86) (pc' := 76) rfl rfl rfl hz121 (fun c122 => absurd c122 (by omega)) (fun c122 => ?_)
      clear hz121
      refine h_aload_n (pc' := 77) rfl rfl rfl ?_
      refine d_call (g_inj ns) (pc' := 80) (m := 154) (M := [(0, .ref 98)]) (rest := []) ⟨false, _, _, _, _, _, _, rfl, rfl, rfl, rfl, rfl, rfl, rfl⟩ (fun lv123 hlv123 => ?_)
      refine h_aload_n (pc' := 1) rfl rfl rfl ?_
      refine h_call (sp := false) (pc' := 4) (M := [(0, .ref 98)]) rfl rfl rfl rfl rfl rfl rfl rfl ?_
      refine n_nameHere _ J0  (by omega) (by omega) (fun r124 br124 hr124 tr124 ps125_0 ps125_1 => h_Kv ?_)
      have gw126 : br124 = -4 := by omega
      refine h_istore_n (pc' := 5) (M := [(1, .int r124), (0, .ref 98)]) rfl rfl rfl rfl ?_
      refine d_toL (g_inj ns) hlw118 hRw118 (fun lvw127 memw127 hlw127 hRw127 => ?_)
      show h_T g_P (g_Y ns) 56 24 [(1, .int (Int32.ofInt (-4))), (0, .ref 63)] [] s0 _
      refine h_wk [(0, .ref 63), (1, .int (Int32.ofInt (-4)))] ⟨rfl, rfl, trivial⟩ (ls_ln I0 J0 (hTL.fr (F0_.mono rfl) (H0_.mono rfl)) (Int32.ofInt (-4)) _ ci_m4 r124 _ hr124 (Int.le_antisymm (by omega) (by omega)) (Int.le_antisymm (by omega) (by omega)) (Int.le_antisymm (by omega) (by omega)) ((ex7 (by omega)).1.1) ((ex7 (by omega)).1.2.1) ((ex7 (by omega)).1.2.2.1) ((ex7 (by omega)).1.2.2.2.1) ((ex7 (by omega)).1.2.2.2.2.1) ((ex7 (by omega)).1.2.2.2.2.2.1) (by omega) (ex7 (by omega)) (Int.le_antisymm (by omega) (by omega)) (⟨by omega, by omega⟩) (by omega) ⟨Int.le_antisymm (by omega) (by omega), Int.le_antisymm (by omega) (by omega)⟩ (fun sq128 tq128 Isq128 Itq128 Gsq128 Gtq128   yq128_0 yq128_1 yq128_2 yq128_3 yq128_4 yq128_5 pcq128 lvq128 memq128 hlq128 hRq128 => ?_) (fun sq129 tq129 Isq129 Itq129 Gsq129 Gtq129   yq129_0 yq129_1 yq129_2 yq129_3 yq129_4 pcq129 lvq129 memq129 hlq129 hRq129 => ?_) (fun sq130 tq130 Isq130 Itq130 Gsq130 Gtq130   yq130_0 yq130_1 yq130_2 yq130_3 yq130_4 pcq130 lvq130 memq130 hlq130 hRq130 => ?_) _ _ (h_al_ok ⟨rfl, rfl, trivial⟩ hlw127) hRw127)
      · have Fsq128 := (Gsq128.mono (B := k_px) rfl).tr F0_
        have Ftq128 := (Gtq128.mono (B := k_pm) rfl).tr H0_
        have Isq128 := Isq128
        have Itq128 := Itq128
        have Gsq128 := Gsq128
        have Gtq128 := Gtq128
        have esq128_6 : sq128 64 1 = s0 64 1 := (Gsq128 64 1 rfl).trans rfl
        have esq128_13 : sq128 63 4 = s0 63 4 := (Gsq128 63 4 rfl).trans rfl
        rcases pcq128 with pcq128 | pcq128
        · show h_T g_P (g_Y ns) 56 180 [(0, .ref 63)] [] sq128 _
          clear hr124
          refine h_vret rfl rfl (d_retn hlv115 ?_)
          refine h_aload_n (pc' := 64) rfl rfl rfl ?_
          refine h_dup (pc' := 65) rfl rfl rfl ?_
          refine h_getI (pc' := 68) (v := s0 63 4) rfl rfl rfl rfl rfl esq128_13 (fun z131 hz131 => ?_)
          have tz131 := tf_63_4 I0
          refine h_iconst (pc' := 69) (x := (Int32.ofInt 1)) rfl rfl rfl ?_
          refine h_iadd (pc' := 70) rfl rfl hz131 ci_1 rfl (by have g0 := h_rgv hz131; omega) (by have g0 := h_rgv hz131; omega) (fun z132 hz132 => ?_)
          clear hz131
          refine h_put (pc' := 73) rfl rfl rfl rfl rfl rfl hz132 rfl (h_fgt (E := fun s => s 64 2 = sq128 64 2 ∧ s 64 4 = sq128 64 4 ∧ s 64 3 = sq128 64 3 ∧ s 64 5 = sq128 64 5 ∧ s 63 2 = sq128 63 2 ∧ s 63 3 = sq128 63 3 ∧ s 64 1 = s0 64 1 ∧ s 66 8 = sq128 66 8 ∧ s 66 9 = sq128 66 9 ∧ s 66 10 = sq128 66 10 ∧ s 69 2 = sq128 69 2 ∧ s 72 2 = sq128 72 2 ∧ s 63 5 = sq128 63 5 ∧ s 63 4 = ((s0 63 4) + 1) ∧ s = h_up sq128 63 4 ((s0 63 4) + 1)) _ (if_63_4 Isq128 (h_rgv hz132)) (Fsq128.up rfl) ⟨rfl, rfl, rfl, rfl, rfl, rfl, esq128_6, rfl, rfl, rfl, rfl, rfl, rfl, rfl, rfl⟩ (fun s133 Is133 Fs133 (es133 : s133 64 2 = sq128 64 2 ∧ s133 64 4 = sq128 64 4 ∧ s133 64 3 = sq128 64 3 ∧ s133 64 5 = sq128 64 5 ∧ s133 63 2 = sq128 63 2 ∧ s133 63 3 = sq128 63 3 ∧ s133 64 1 = s0 64 1 ∧ s133 66 8 = sq128 66 8 ∧ s133 66 9 = sq128 66 9 ∧ s133 66 10 = sq128 66 10 ∧ s133 69 2 = sq128 69 2 ∧ s133 72 2 = sq128 72 2 ∧ s133 63 5 = sq128 63 5 ∧ s133 63 4 = ((s0 63 4) + 1) ∧ s133 = h_up sq128 63 4 ((s0 63 4) + 1)) => ?_))
          have us133 := es133.2.2.2.2.2.2.2.2.2.2.2.2.2.2
          refine h_aload_n (pc' := 74) rfl rfl rfl ?_
          refine h_call (sp := false) (pc' := 77) (M := [(0, .ref 63)]) rfl rfl rfl rfl rfl rfl rfl rfl ?_
          refine h_aload_n (pc' := 1) rfl rfl rfl ?_
          refine h_getI (pc' := 4) (v := sq128 63 2) rfl rfl rfl rfl rfl es133.2.2.2.2.1 (fun z134 hz134 => ?_)
          have tz134 := tf_63_2 Isq128
          refine h_zne (tg := 37) (pc' := 7) rfl rfl rfl hz134 (fun c135 => ?_) (fun c135 => absurd c135 (by omega))
          clear hz134
          refine h_vret rfl rfl (h_Kn ?_)
          refine h_iinc (pc' := 80) (M := fun z136 => [(1, .int z136), (0, .ref 63)]) rfl rfl rfl rfl hx1 ci_1 rfl (by omega) (by omega) (fun _ => rfl) (fun z136 hz136 => ?_)
          refine h_goto (pc' := 35) rfl rfl ?_
          refine d_toM (g_inj ns) hlq128 hRq128 (fun lvw137 memw137 hlw137 hRw137 => ?_)
          show h_T g_P (g_Y ns) 154 165 [(0, .ref 98)] [] tq128 _
          refine h_aload_n (pc' := 166) rfl rfl rfl ?_
          refine h_call (sp := false) (pc' := 169) (M := [(0, .ref 98)]) rfl rfl rfl rfl rfl rfl rfl rfl ?_
          refine h_aload_n (pc' := 1) rfl rfl rfl ?_
          refine h_getI (pc' := 4) (v := tq128 98 13) rfl rfl rfl rfl rfl rfl (fun z138 hz138 => ?_)
          have tz138 := tf_98_13 Itq128
          refine h_zle (tg := 8) (pc' := 7) rfl rfl rfl hz138 (fun c139 => absurd c139 (by omega)) (fun c139 => ?_)
          clear hz138
          refine h_vret rfl rfl (h_Kn ?_)
          refine h_vret rfl rfl (d_retn hlv123 ?_)
          refine h_iinc (pc' := 83) (M := fun z140 => [(1, .int z140), (0, .ref 98)]) rfl rfl rfl rfl hy1 ci_1 rfl (by omega) (by omega) (fun _ => rfl) (fun z140 hz140 => ?_)
          refine h_goto (pc' := 62) rfl rfl ?_
          refine d_toL (g_inj ns) hlw137 hRw137 (fun lvw141 memw141 hlw141 hRw141 => ?_)
          show h_T g_P (g_Y ns) 52 35 [(1, .int z136), (0, .ref 63)] [] s133 _
          exact h_wk [(0, .ref 63), (1, .int z136)] ⟨rfl, rfl, trivial⟩ (ih _ _ Is133 Itq128 Fs133 Ftq128 z136 _ hz136 z140 _ hz140 (Int.le_antisymm (by omega) (by omega)) (Int.le_antisymm (by omega) (by omega)) (Int.le_antisymm (by omega) (by omega)) (by omega) (Int.le_antisymm (by omega) (by omega)) (Int.le_antisymm (by omega) (by omega)) (⟨by omega, by omega⟩) (fun h => absurd h (by omega)) (Or.inl ⟨⟨by omega, by omega⟩, ⟨by omega, by omega⟩, Int.le_antisymm (by omega) (by omega), Int.le_antisymm (by omega) (by omega)⟩) (by omega) _ _ (h_al_ok ⟨rfl, rfl, trivial⟩ hlw141) hRw141)
        · show h_T g_P (g_Y ns) 56 180 [(0, .ref 63)] [] sq128 _
          clear hr124
          refine h_vret rfl rfl (d_retn hlv115 ?_)
          refine h_aload_n (pc' := 64) rfl rfl rfl ?_
          refine h_dup (pc' := 65) rfl rfl rfl ?_
          refine h_getI (pc' := 68) (v := s0 63 4) rfl rfl rfl rfl rfl esq128_13 (fun z142 hz142 => ?_)
          have tz142 := tf_63_4 I0
          refine h_iconst (pc' := 69) (x := (Int32.ofInt 1)) rfl rfl rfl ?_
          refine h_iadd (pc' := 70) rfl rfl hz142 ci_1 rfl (by have g0 := h_rgv hz142; omega) (by have g0 := h_rgv hz142; omega) (fun z143 hz143 => ?_)
          clear hz142
          refine h_put (pc' := 73) rfl rfl rfl rfl rfl rfl hz143 rfl (h_fgt (E := fun s => s 64 2 = sq128 64 2 ∧ s 64 4 = sq128 64 4 ∧ s 64 3 = sq128 64 3 ∧ s 64 5 = sq128 64 5 ∧ s 63 2 = sq128 63 2 ∧ s 63 3 = sq128 63 3 ∧ s 64 1 = s0 64 1 ∧ s 66 8 = sq128 66 8 ∧ s 66 9 = sq128 66 9 ∧ s 66 10 = sq128 66 10 ∧ s 69 2 = sq128 69 2 ∧ s 72 2 = sq128 72 2 ∧ s 63 5 = sq128 63 5 ∧ s 63 4 = ((s0 63 4) + 1) ∧ s = h_up sq128 63 4 ((s0 63 4) + 1)) _ (if_63_4 Isq128 (h_rgv hz143)) (Fsq128.up rfl) ⟨rfl, rfl, rfl, rfl, rfl, rfl, esq128_6, rfl, rfl, rfl, rfl, rfl, rfl, rfl, rfl⟩ (fun s144 Is144 Fs144 (es144 : s144 64 2 = sq128 64 2 ∧ s144 64 4 = sq128 64 4 ∧ s144 64 3 = sq128 64 3 ∧ s144 64 5 = sq128 64 5 ∧ s144 63 2 = sq128 63 2 ∧ s144 63 3 = sq128 63 3 ∧ s144 64 1 = s0 64 1 ∧ s144 66 8 = sq128 66 8 ∧ s144 66 9 = sq128 66 9 ∧ s144 66 10 = sq128 66 10 ∧ s144 69 2 = sq128 69 2 ∧ s144 72 2 = sq128 72 2 ∧ s144 63 5 = sq128 63 5 ∧ s144 63 4 = ((s0 63 4) + 1) ∧ s144 = h_up sq128 63 4 ((s0 63 4) + 1)) => ?_))
          have us144 := es144.2.2.2.2.2.2.2.2.2.2.2.2.2.2
          refine h_aload_n (pc' := 74) rfl rfl rfl ?_
          refine d_toM (g_inj ns) hlq128 hRq128 (fun lvw145 memw145 hlw145 hRw145 => ?_)
          show h_T g_P (g_Y ns) 154 165 [(0, .ref 98)] [] tq128 _
          refine h_aload_n (pc' := 166) rfl rfl rfl ?_
          refine d_pcall (g_inj ns) (m1 := 54) (pc1' := 77) (M1 := [(0, .ref 63)]) (rest1 := []) (m2 := 148) (pc2' := 169) (M2 := [(0, .ref 98)]) (rest2 := []) ⟨false, _, _, _, _, _, _, rfl, rfl, rfl, rfl, rfl, rfl, rfl⟩ ⟨false, _, _, _, _, _, _, rfl, rfl, rfl, rfl, rfl, rfl, rfl⟩ hRw145 ?_
          refine pp_step Is144 Itq128 (hTL.fr (Fs144.mono rfl) (Ftq128.mono rfl)) (Int.le_antisymm (by omega) (by omega)) (Int.le_antisymm (by omega) (by omega)) (Int.le_antisymm (by omega) (by omega)) (by omega) (Or.inr ⟨Int.le_antisymm (by omega) (by omega), Int.le_antisymm (by omega) (by omega)⟩) (fun sq146 tq146 Isq146 Itq146 Gsq146 Gtq146 yq146_0 yq146_1 yq146_2 yq146_3 yq146_4 pcq146 memq146 hRq146 => ?_)
          have Fsq146 := (Gsq146.mono (B := k_px) rfl).tr Fs144
          have Ftq146 := (Gtq146.mono (B := k_pm) rfl).tr Ftq128
          have esq146_6 : sq146 64 1 = s0 64 1 := (Gsq146 64 1 rfl).trans es144.2.2.2.2.2.2.1
          have esq146_7 : sq146 66 8 = sq128 66 8 := (Gsq146 66 8 rfl).trans es144.2.2.2.2.2.2.2.1
          have esq146_8 : sq146 66 9 = sq128 66 9 := (Gsq146 66 9 rfl).trans es144.2.2.2.2.2.2.2.2.1
          have esq146_9 : sq146 66 10 = sq128 66 10 := (Gsq146 66 10 rfl).trans es144.2.2.2.2.2.2.2.2.2.1
          have esq146_10 : sq146 69 2 = sq128 69 2 := (Gsq146 69 2 rfl).trans es144.2.2.2.2.2.2.2.2.2.2.1
          have esq146_11 : sq146 72 2 = sq128 72 2 := (Gsq146 72 2 rfl).trans es144.2.2.2.2.2.2.2.2.2.2.2.1
          have esq146_12 : sq146 63 5 = sq128 63 5 := (Gsq146 63 5 rfl).trans es144.2.2.2.2.2.2.2.2.2.2.2.2.1
          have esq146_13 : sq146 63 4 = ((s0 63 4) + 1) := (Gsq146 63 4 rfl).trans es144.2.2.2.2.2.2.2.2.2.2.2.2.2.1
          have etq146_6 : tq146 98 5 = tq128 98 5 := (Gtq146 98 5 rfl).trans rfl
          have etq146_7 : tq146 98 6 = tq128 98 6 := (Gtq146 98 6 rfl).trans rfl
          have etq146_8 : tq146 98 7 = tq128 98 7 := (Gtq146 98 7 rfl).trans rfl
          have etq146_9 : tq146 98 8 = tq128 98 8 := (Gtq146 98 8 rfl).trans rfl
          have etq146_10 : tq146 98 9 = tq128 98 9 := (Gtq146 98 9 rfl).trans rfl
          have etq146_11 : tq146 101 18 = tq128 101 18 := (Gtq146 101 18 rfl).trans rfl
          have etq146_12 : tq146 101 25 = tq128 101 25 := (Gtq146 101 25 rfl).trans rfl
          have etq146_13 : tq146 101 43 = tq128 101 43 := (Gtq146 101 43 rfl).trans rfl
          show h_T g_P (g_Y ns) 154 169 [(0, .ref 98)] [] tq146 _
          refine h_vret rfl rfl (d_retn hlv123 ?_)
          refine h_iinc (pc' := 83) (M := fun z147 => [(1, .int z147), (0, .ref 98)]) rfl rfl rfl rfl hy1 ci_1 rfl (by omega) (by omega) (fun _ => rfl) (fun z147 hz147 => ?_)
          refine h_goto (pc' := 62) rfl rfl ?_
          refine d_toL (g_inj ns) hlw145 hRq146 (fun lvw148 memw148 hlw148 hRw148 => ?_)
          show h_T g_P (g_Y ns) 52 77 [(0, .ref 63), (1, .int x1)] [] sq146 _
          refine h_iinc (pc' := 80) (M := fun z149 => [(1, .int z149), (0, .ref 63)]) rfl rfl rfl rfl hx1 ci_1 rfl (by omega) (by omega) (fun _ => rfl) (fun z149 hz149 => ?_)
          refine h_goto (pc' := 35) rfl rfl ?_
          exact h_wk [(0, .ref 63), (1, .int z149)] ⟨rfl, rfl, trivial⟩ (ih _ _ Isq146 Itq146 Fsq146 Ftq146 z149 _ hz149 z147 _ hz147 (Int.le_antisymm (by omega) (by omega)) (Int.le_antisymm (by omega) (by omega)) (Int.le_antisymm (by omega) (by omega)) (by omega) (Int.le_antisymm (by omega) (by omega)) (Int.le_antisymm (by omega) (by omega)) (⟨by omega, by omega⟩) (fun _ => d_mk ((Gsq146 66 8 rfl).trans (h_upo us144 rfl 8)) ((Gsq146 66 9 rfl).trans (h_upo us144 rfl 9)) ((Gsq146 66 10 rfl).trans (h_upo us144 rfl 10)) ((Gsq146 69 2 rfl).trans (h_upo us144 rfl 2)) ((Gsq146 72 2 rfl).trans (h_upo us144 rfl 2)) ((Gsq146 63 5 rfl).trans (h_upd us144 (by decide))) (fun j => (Gsq146 67 j rfl).trans (h_upo us144 rfl j)) (fun j => (Gsq146 68 j rfl).trans (h_upo us144 rfl j)) (fun j => (Gsq146 70 j rfl).trans (h_upo us144 rfl j)) (fun j => (Gsq146 71 j rfl).trans (h_upo us144 rfl j)) (fun j => (Gsq146 73 j rfl).trans (h_upo us144 rfl j)) (fun j => (Gsq146 74 j rfl).trans (h_upo us144 rfl j)) (fun j => (Gsq146 75 j rfl).trans (h_upo us144 rfl j)) (fun j => (Gsq146 76 j rfl).trans (h_upo us144 rfl j)) (fun j => (Gsq146 77 j rfl).trans (h_upo us144 rfl j)) (fun j => (Gsq146 78 j rfl).trans (h_upo us144 rfl j)) ((Gtq146 98 5 rfl)) ((Gtq146 98 6 rfl)) ((Gtq146 98 7 rfl)) ((Gtq146 98 8 rfl)) ((Gtq146 98 9 rfl)) (fun j => (Gtq146 101 j rfl)) (yq128_5 (by omega))) (pcq146.elim (fun pcq146 => (Or.inl ⟨⟨by omega, by omega⟩, ⟨by omega, by omega⟩, Int.le_antisymm (by omega) (by omega), Int.le_antisymm (by omega) (by omega)⟩)) (fun pcq146 => (pcq146.elim (fun pcq146 => (Or.inr (Or.inl ⟨Int.le_antisymm (by omega) (by omega), Int.le_antisymm (by omega) (by omega), Int.le_antisymm (by omega) (by omega), Int.le_antisymm (by omega) (by omega), Int.le_antisymm (by omega) (by omega)⟩))) (fun pcq146 => (pcq146.elim (fun pcq146 => (Or.inr (Or.inr (Or.inl ⟨Int.le_antisymm (by omega) (by omega), Int.le_antisymm (by omega) (by omega), Int.le_antisymm (by omega) (by omega), Int.le_antisymm (by omega) (by omega), by omega, by omega⟩)))) (fun pcq146 => (pcq146.elim (fun pcq146 => (Or.inr (Or.inr (Or.inr (Or.inl ⟨Int.le_antisymm (by omega) (by omega), Int.le_antisymm (by omega) (by omega), Int.le_antisymm (by omega) (by omega), Int.le_antisymm (by omega) (by omega), ⟨by omega, by omega⟩, ⟨by omega, by omega⟩, Int.le_antisymm (by omega) (by omega), by omega, by omega⟩))))) (fun pcq146 => (Or.inr (Or.inr (Or.inr (Or.inr ⟨Int.le_antisymm (by omega) (by omega), Int.le_antisymm (by omega) (by omega), Int.le_antisymm (by omega) (by omega), Int.le_antisymm (by omega) (by omega), by omega, by omega⟩)))))))))))) (by omega) _ _ (h_al_ok ⟨rfl, rfl, trivial⟩ hlw148) hRw148)
      · have Fsq129 := (Gsq129.mono (B := k_px) rfl).tr F0_
        have Ftq129 := (Gtq129.mono (B := k_pm) rfl).tr H0_
        have Isq129 := Isq129
        have Itq129 := Itq129
        have Gsq129 := Gsq129
        have Gtq129 := Gtq129
        have esq129_6 : sq129 64 1 = s0 64 1 := (Gsq129 64 1 rfl).trans rfl
        have esq129_13 : sq129 63 4 = s0 63 4 := (Gsq129 63 4 rfl).trans rfl
        show h_T g_P (g_Y ns) 56 180 [(0, .ref 63)] [] sq129 _
        clear hr124
        refine h_vret rfl rfl (d_retn hlv115 ?_)
        refine h_aload_n (pc' := 64) rfl rfl rfl ?_
        refine h_dup (pc' := 65) rfl rfl rfl ?_
        refine h_getI (pc' := 68) (v := s0 63 4) rfl rfl rfl rfl rfl esq129_13 (fun z150 hz150 => ?_)
        have tz150 := tf_63_4 I0
        refine h_iconst (pc' := 69) (x := (Int32.ofInt 1)) rfl rfl rfl ?_
        refine h_iadd (pc' := 70) rfl rfl hz150 ci_1 rfl (by have g0 := h_rgv hz150; omega) (by have g0 := h_rgv hz150; omega) (fun z151 hz151 => ?_)
        clear hz150
        refine h_put (pc' := 73) rfl rfl rfl rfl rfl rfl hz151 rfl (h_fgt (E := fun s => s 64 2 = sq129 64 2 ∧ s 64 4 = sq129 64 4 ∧ s 64 3 = sq129 64 3 ∧ s 64 5 = sq129 64 5 ∧ s 63 2 = sq129 63 2 ∧ s 63 3 = sq129 63 3 ∧ s 64 1 = s0 64 1 ∧ s 66 8 = sq129 66 8 ∧ s 66 9 = sq129 66 9 ∧ s 66 10 = sq129 66 10 ∧ s 69 2 = sq129 69 2 ∧ s 72 2 = sq129 72 2 ∧ s 63 5 = sq129 63 5 ∧ s 63 4 = ((s0 63 4) + 1) ∧ s = h_up sq129 63 4 ((s0 63 4) + 1)) _ (if_63_4 Isq129 (h_rgv hz151)) (Fsq129.up rfl) ⟨rfl, rfl, rfl, rfl, rfl, rfl, esq129_6, rfl, rfl, rfl, rfl, rfl, rfl, rfl, rfl⟩ (fun s152 Is152 Fs152 (es152 : s152 64 2 = sq129 64 2 ∧ s152 64 4 = sq129 64 4 ∧ s152 64 3 = sq129 64 3 ∧ s152 64 5 = sq129 64 5 ∧ s152 63 2 = sq129 63 2 ∧ s152 63 3 = sq129 63 3 ∧ s152 64 1 = s0 64 1 ∧ s152 66 8 = sq129 66 8 ∧ s152 66 9 = sq129 66 9 ∧ s152 66 10 = sq129 66 10 ∧ s152 69 2 = sq129 69 2 ∧ s152 72 2 = sq129 72 2 ∧ s152 63 5 = sq129 63 5 ∧ s152 63 4 = ((s0 63 4) + 1) ∧ s152 = h_up sq129 63 4 ((s0 63 4) + 1)) => ?_))
        have us152 := es152.2.2.2.2.2.2.2.2.2.2.2.2.2.2
        refine h_aload_n (pc' := 74) rfl rfl rfl ?_
        refine h_call (sp := false) (pc' := 77) (M := [(0, .ref 63)]) rfl rfl rfl rfl rfl rfl rfl rfl ?_
        refine h_aload_n (pc' := 1) rfl rfl rfl ?_
        refine h_getI (pc' := 4) (v := sq129 63 2) rfl rfl rfl rfl rfl es152.2.2.2.2.1 (fun z153 hz153 => ?_)
        have tz153 := tf_63_2 Isq129
        refine h_zne (tg := 37) (pc' := 7) rfl rfl rfl hz153 (fun c154 => ?_) (fun c154 => absurd c154 (by omega))
        clear hz153
        refine h_vret rfl rfl (h_Kn ?_)
        refine h_iinc (pc' := 80) (M := fun z155 => [(1, .int z155), (0, .ref 63)]) rfl rfl rfl rfl hx1 ci_1 rfl (by omega) (by omega) (fun _ => rfl) (fun z155 hz155 => ?_)
        refine h_goto (pc' := 35) rfl rfl ?_
        refine d_toM (g_inj ns) hlq129 hRq129 (fun lvw156 memw156 hlw156 hRw156 => ?_)
        show h_T g_P (g_Y ns) 154 139 [(0, .ref 98)] [] tq129 _
        refine h_vret rfl rfl (d_retn hlv123 ?_)
        refine h_iinc (pc' := 83) (M := fun z157 => [(1, .int z157), (0, .ref 98)]) rfl rfl rfl rfl hy1 ci_1 rfl (by omega) (by omega) (fun _ => rfl) (fun z157 hz157 => ?_)
        refine h_goto (pc' := 62) rfl rfl ?_
        refine d_toL (g_inj ns) hlw156 hRw156 (fun lvw158 memw158 hlw158 hRw158 => ?_)
        show h_T g_P (g_Y ns) 52 35 [(1, .int z155), (0, .ref 63)] [] s152 _
        exact h_wk [(0, .ref 63), (1, .int z155)] ⟨rfl, rfl, trivial⟩ (ih _ _ Is152 Itq129 Fs152 Ftq129 z155 _ hz155 z157 _ hz157 (Int.le_antisymm (by omega) (by omega)) (Int.le_antisymm (by omega) (by omega)) (Int.le_antisymm (by omega) (by omega)) (by omega) (Int.le_antisymm (by omega) (by omega)) (Int.le_antisymm (by omega) (by omega)) (⟨by omega, by omega⟩) (fun h => absurd h (by omega)) (Or.inl ⟨⟨by omega, by omega⟩, ⟨by omega, by omega⟩, Int.le_antisymm (by omega) (by omega), Int.le_antisymm (by omega) (by omega)⟩) (by omega) _ _ (h_al_ok ⟨rfl, rfl, trivial⟩ hlw158) hRw158)
      · have Fsq130 := (Gsq130.mono (B := k_px) rfl).tr F0_
        have Ftq130 := (Gtq130.mono (B := k_pm) rfl).tr H0_
        have Isq130 := Isq130
        have Itq130 := Itq130
        have Gsq130 := Gsq130
        have Gtq130 := Gtq130
        have esq130_6 : sq130 64 1 = s0 64 1 := (Gsq130 64 1 rfl).trans rfl
        have esq130_13 : sq130 63 4 = s0 63 4 := (Gsq130 63 4 rfl).trans rfl
        show h_T g_P (g_Y ns) 56 180 [(0, .ref 63)] [] sq130 _
        clear hr124
        refine h_vret rfl rfl (d_retn hlv115 ?_)
        refine h_aload_n (pc' := 64) rfl rfl rfl ?_
        refine h_dup (pc' := 65) rfl rfl rfl ?_
        refine h_getI (pc' := 68) (v := s0 63 4) rfl rfl rfl rfl rfl esq130_13 (fun z159 hz159 => ?_)
        have tz159 := tf_63_4 I0
        refine h_iconst (pc' := 69) (x := (Int32.ofInt 1)) rfl rfl rfl ?_
        refine h_iadd (pc' := 70) rfl rfl hz159 ci_1 rfl (by have g0 := h_rgv hz159; omega) (by have g0 := h_rgv hz159; omega) (fun z160 hz160 => ?_)
        clear hz159
        refine h_put (pc' := 73) rfl rfl rfl rfl rfl rfl hz160 rfl (h_fgt (E := fun s => s 64 2 = sq130 64 2 ∧ s 64 4 = sq130 64 4 ∧ s 64 3 = sq130 64 3 ∧ s 64 5 = sq130 64 5 ∧ s 63 2 = sq130 63 2 ∧ s 63 3 = sq130 63 3 ∧ s 64 1 = s0 64 1 ∧ s 66 8 = sq130 66 8 ∧ s 66 9 = sq130 66 9 ∧ s 66 10 = sq130 66 10 ∧ s 69 2 = sq130 69 2 ∧ s 72 2 = sq130 72 2 ∧ s 63 5 = sq130 63 5 ∧ s 63 4 = ((s0 63 4) + 1) ∧ s = h_up sq130 63 4 ((s0 63 4) + 1)) _ (if_63_4 Isq130 (h_rgv hz160)) (Fsq130.up rfl) ⟨rfl, rfl, rfl, rfl, rfl, rfl, esq130_6, rfl, rfl, rfl, rfl, rfl, rfl, rfl, rfl⟩ (fun s161 Is161 Fs161 (es161 : s161 64 2 = sq130 64 2 ∧ s161 64 4 = sq130 64 4 ∧ s161 64 3 = sq130 64 3 ∧ s161 64 5 = sq130 64 5 ∧ s161 63 2 = sq130 63 2 ∧ s161 63 3 = sq130 63 3 ∧ s161 64 1 = s0 64 1 ∧ s161 66 8 = sq130 66 8 ∧ s161 66 9 = sq130 66 9 ∧ s161 66 10 = sq130 66 10 ∧ s161 69 2 = sq130 69 2 ∧ s161 72 2 = sq130 72 2 ∧ s161 63 5 = sq130 63 5 ∧ s161 63 4 = ((s0 63 4) + 1) ∧ s161 = h_up sq130 63 4 ((s0 63 4) + 1)) => ?_))
        have us161 := es161.2.2.2.2.2.2.2.2.2.2.2.2.2.2
        refine h_aload_n (pc' := 74) rfl rfl rfl ?_
        refine h_call (sp := false) (pc' := 77) (M := [(0, .ref 63)]) rfl rfl rfl rfl rfl rfl rfl rfl ?_
        refine h_aload_n (pc' := 1) rfl rfl rfl ?_
        refine h_getI (pc' := 4) (v := sq130 63 2) rfl rfl rfl rfl rfl es161.2.2.2.2.1 (fun z162 hz162 => ?_)
        have tz162 := tf_63_2 Isq130
        refine h_zne (tg := 37) (pc' := 7) rfl rfl rfl hz162 (fun c163 => ?_) (fun c163 => absurd c163 (by omega))
        clear hz162
        refine h_vret rfl rfl (h_Kn ?_)
        refine h_iinc (pc' := 80) (M := fun z164 => [(1, .int z164), (0, .ref 63)]) rfl rfl rfl rfl hx1 ci_1 rfl (by omega) (by omega) (fun _ => rfl) (fun z164 hz164 => ?_)
        refine h_goto (pc' := 35) rfl rfl ?_
        refine d_toM (g_inj ns) hlq130 hRq130 (fun lvw165 memw165 hlw165 hRw165 => ?_)
        show h_T g_P (g_Y ns) 154 22 [(0, .ref 98)] [] tq130 _
        refine h_vret rfl rfl (d_retn hlv123 ?_)
        refine h_iinc (pc' := 83) (M := fun z166 => [(1, .int z166), (0, .ref 98)]) rfl rfl rfl rfl hy1 ci_1 rfl (by omega) (by omega) (fun _ => rfl) (fun z166 hz166 => ?_)
        refine h_goto (pc' := 62) rfl rfl ?_
        refine d_toL (g_inj ns) hlw165 hRw165 (fun lvw167 memw167 hlw167 hRw167 => ?_)
        show h_T g_P (g_Y ns) 52 35 [(1, .int z164), (0, .ref 63)] [] s161 _
        exact h_wk [(0, .ref 63), (1, .int z164)] ⟨rfl, rfl, trivial⟩ (ih _ _ Is161 Itq130 Fs161 Ftq130 z164 _ hz164 z166 _ hz166 (Int.le_antisymm (by omega) (by omega)) (Int.le_antisymm (by omega) (by omega)) (Int.le_antisymm (by omega) (by omega)) (by omega) (Int.le_antisymm (by omega) (by omega)) (Int.le_antisymm (by omega) (by omega)) (⟨by omega, by omega⟩) (fun h => absurd h (by omega)) (Or.inl ⟨⟨by omega, by omega⟩, ⟨by omega, by omega⟩, Int.le_antisymm (by omega) (by omega), Int.le_antisymm (by omega) (by omega)⟩) (by omega) _ _ (h_al_ok ⟨rfl, rfl, trivial⟩ hlw167) hRw167)
    · show h_T g_P (g_Y ns) 52 35 [(0, .ref 63), (1, .int x1)] [] s0 _
      refine h_iload_n (pc' := 36) rfl rfl rfl ?_
      refine h_sipush (pc' := 39) (x := (Int32.ofInt 160)) rfl rfl cs_160 ?_
      refine h_cge (tg := 83) (pc' := 42) rfl rfl rfl hx1 ci_160 (fun c168 => absurd c168 (by omega)) (fun c168 => ?_)
      refine h_aload_n (pc' := 43) rfl rfl rfl ?_
      refine h_getI (pc' := 46) (v := s0 63 2) rfl rfl rfl rfl rfl rfl (fun z169 hz169 => ?_)
      have tz169 := tf_63_2 I0
      refine h_zne (tg := 83) (pc' := 49) rfl rfl rfl hz169 (fun c170 => absurd (Int.le_antisymm (by omega) (by omega)) c170) (fun c170 => ?_)
      clear hz169
      refine h_aload_n (pc' := 50) rfl rfl rfl ?_
      refine h_getR (pc' := 53) rfl rfl rfl rfl rfl ?_
      refine h_getI (pc' := 56) (v := s0 64 3) rfl rfl rfl rfl rfl rfl (fun z171 hz171 => ?_)
      have tz171 := tf_64_3 I0
      refine h_zeq (tg := 83) (pc' := 59) rfl rfl rfl hz171 (fun c172 => absurd c172 (by omega)) (fun c172 => ?_)
      clear hz171
      refine h_aload_n (pc' := 60) rfl rfl rfl ?_
      refine d_call (g_inj ns) (pc' := 63) (m := 56) (M := [(0, .ref 63)]) (rest := []) ⟨false, _, _, _, _, _, _, rfl, rfl, rfl, rfl, rfl, rfl, rfl⟩ (fun lv173 hlv173 => ?_)
      refine h_aload_n (pc' := 1) rfl rfl rfl ?_
      refine h_getR (pc' := 4) rfl rfl rfl rfl rfl ?_
      refine h_getI (pc' := 7) (v := s0 64 3) rfl rfl rfl rfl rfl rfl (fun z174 hz174 => ?_)
      refine h_iconst (pc' := 8) (x := (Int32.ofInt 1)) rfl rfl rfl ?_
      refine h_cne (tg := 21) (pc' := 11) rfl rfl rfl hz174 ci_1 (fun c175 => ?_) (fun c175 => absurd c175 (by omega))
      clear hz174
      refine h_bipush (pc' := 23) (x := (Int32.ofInt (-4))) rfl rfl cb_m4 ?_
      refine h_istore_n (pc' := 24) (M := [(1, .int (Int32.ofInt (-4))), (0, .ref 63)]) rfl rfl rfl rfl ?_
      refine d_toM (g_inj ns) hl2 hR2 (fun lvw176 memw176 hlw176 hRw176 => ?_)
      show h_T g_P (g_Y ns) 155 62 [(0, .ref 98), (1, .int y1)] [] t0 _
      refine h_aload_n (pc' := 63) rfl rfl rfl ?_
      refine h_getI (pc' := 66) (v := t0 98 13) rfl rfl rfl rfl rfl rfl (fun z177 hz177 => ?_)
      have tz177 := tf_98_13 J0
      refine h_zne (tg := 86) (pc' := 69) rfl rfl rfl hz177 (fun c178 => absurd (Int.le_antisymm (by omega) (by omega)) c178) (fun c178 => ?_)
      clear hz177
      refine h_aload_n (pc' := 70) rfl rfl rfl ?_
      refine h_getI (pc' := 73) (v := t0 98 17) rfl rfl rfl rfl rfl rfl (fun z179 hz179 => ?_)
      have tz179 := tf_98_17 J0
      refine h_zeq (tg := 86) (pc' := 76) rfl rfl rfl hz179 (fun c180 => absurd c180 (by omega)) (fun c180 => ?_)
      clear hz179
      refine h_aload_n (pc' := 77) rfl rfl rfl ?_
      refine d_call (g_inj ns) (pc' := 80) (m := 154) (M := [(0, .ref 98)]) (rest := []) ⟨false, _, _, _, _, _, _, rfl, rfl, rfl, rfl, rfl, rfl, rfl⟩ (fun lv181 hlv181 => ?_)
      refine h_aload_n (pc' := 1) rfl rfl rfl ?_
      refine h_call (sp := false) (pc' := 4) (M := [(0, .ref 98)]) rfl rfl rfl rfl rfl rfl rfl rfl ?_
      refine n_nameHere _ J0  (by omega) (by omega) (fun r182 br182 hr182 tr182 ps183_0 ps183_1 => h_Kv ?_)
      have gw184 : br182 = -4 := by omega
      refine h_istore_n (pc' := 5) (M := [(1, .int r182), (0, .ref 98)]) rfl rfl rfl rfl ?_
      refine d_toL (g_inj ns) hlw176 hRw176 (fun lvw185 memw185 hlw185 hRw185 => ?_)
      show h_T g_P (g_Y ns) 56 24 [(1, .int (Int32.ofInt (-4))), (0, .ref 63)] [] s0 _
      refine h_wk [(0, .ref 63), (1, .int (Int32.ofInt (-4)))] ⟨rfl, rfl, trivial⟩ (ls_ln I0 J0 (hTL.fr (F0_.mono rfl) (H0_.mono rfl)) (Int32.ofInt (-4)) _ ci_m4 r182 _ hr182 (Int.le_antisymm (by omega) (by omega)) (Int.le_antisymm (by omega) (by omega)) (Int.le_antisymm (by omega) (by omega)) ((ex7 (by omega)).1.1) ((ex7 (by omega)).1.2.1) ((ex7 (by omega)).1.2.2.1) ((ex7 (by omega)).1.2.2.2.1) ((ex7 (by omega)).1.2.2.2.2.1) ((ex7 (by omega)).1.2.2.2.2.2.1) (by omega) (ex7 (by omega)) (Int.le_antisymm (by omega) (by omega)) (⟨by omega, by omega⟩) (by omega) ⟨Int.le_antisymm (by omega) (by omega), Int.le_antisymm (by omega) (by omega)⟩ (fun sq186 tq186 Isq186 Itq186 Gsq186 Gtq186   yq186_0 yq186_1 yq186_2 yq186_3 yq186_4 yq186_5 pcq186 lvq186 memq186 hlq186 hRq186 => ?_) (fun sq187 tq187 Isq187 Itq187 Gsq187 Gtq187   yq187_0 yq187_1 yq187_2 yq187_3 yq187_4 pcq187 lvq187 memq187 hlq187 hRq187 => ?_) (fun sq188 tq188 Isq188 Itq188 Gsq188 Gtq188   yq188_0 yq188_1 yq188_2 yq188_3 yq188_4 pcq188 lvq188 memq188 hlq188 hRq188 => ?_) _ _ (h_al_ok ⟨rfl, rfl, trivial⟩ hlw185) hRw185)
      · have Fsq186 := (Gsq186.mono (B := k_px) rfl).tr F0_
        have Ftq186 := (Gtq186.mono (B := k_pm) rfl).tr H0_
        have Isq186 := Isq186
        have Itq186 := Itq186
        have Gsq186 := Gsq186
        have Gtq186 := Gtq186
        have esq186_6 : sq186 64 1 = s0 64 1 := (Gsq186 64 1 rfl).trans rfl
        have esq186_13 : sq186 63 4 = s0 63 4 := (Gsq186 63 4 rfl).trans rfl
        rcases pcq186 with pcq186 | pcq186
        · show h_T g_P (g_Y ns) 56 180 [(0, .ref 63)] [] sq186 _
          clear hr182
          refine h_vret rfl rfl (d_retn hlv173 ?_)
          refine h_aload_n (pc' := 64) rfl rfl rfl ?_
          refine h_dup (pc' := 65) rfl rfl rfl ?_
          refine h_getI (pc' := 68) (v := s0 63 4) rfl rfl rfl rfl rfl esq186_13 (fun z189 hz189 => ?_)
          have tz189 := tf_63_4 I0
          refine h_iconst (pc' := 69) (x := (Int32.ofInt 1)) rfl rfl rfl ?_
          refine h_iadd (pc' := 70) rfl rfl hz189 ci_1 rfl (by have g0 := h_rgv hz189; omega) (by have g0 := h_rgv hz189; omega) (fun z190 hz190 => ?_)
          clear hz189
          refine h_put (pc' := 73) rfl rfl rfl rfl rfl rfl hz190 rfl (h_fgt (E := fun s => s 64 2 = sq186 64 2 ∧ s 64 4 = sq186 64 4 ∧ s 64 3 = sq186 64 3 ∧ s 64 5 = sq186 64 5 ∧ s 63 2 = sq186 63 2 ∧ s 63 3 = sq186 63 3 ∧ s 64 1 = s0 64 1 ∧ s 66 8 = sq186 66 8 ∧ s 66 9 = sq186 66 9 ∧ s 66 10 = sq186 66 10 ∧ s 69 2 = sq186 69 2 ∧ s 72 2 = sq186 72 2 ∧ s 63 5 = sq186 63 5 ∧ s 63 4 = ((s0 63 4) + 1) ∧ s = h_up sq186 63 4 ((s0 63 4) + 1)) _ (if_63_4 Isq186 (h_rgv hz190)) (Fsq186.up rfl) ⟨rfl, rfl, rfl, rfl, rfl, rfl, esq186_6, rfl, rfl, rfl, rfl, rfl, rfl, rfl, rfl⟩ (fun s191 Is191 Fs191 (es191 : s191 64 2 = sq186 64 2 ∧ s191 64 4 = sq186 64 4 ∧ s191 64 3 = sq186 64 3 ∧ s191 64 5 = sq186 64 5 ∧ s191 63 2 = sq186 63 2 ∧ s191 63 3 = sq186 63 3 ∧ s191 64 1 = s0 64 1 ∧ s191 66 8 = sq186 66 8 ∧ s191 66 9 = sq186 66 9 ∧ s191 66 10 = sq186 66 10 ∧ s191 69 2 = sq186 69 2 ∧ s191 72 2 = sq186 72 2 ∧ s191 63 5 = sq186 63 5 ∧ s191 63 4 = ((s0 63 4) + 1) ∧ s191 = h_up sq186 63 4 ((s0 63 4) + 1)) => ?_))
          have us191 := es191.2.2.2.2.2.2.2.2.2.2.2.2.2.2
          refine h_aload_n (pc' := 74) rfl rfl rfl ?_
          refine h_call (sp := false) (pc' := 77) (M := [(0, .ref 63)]) rfl rfl rfl rfl rfl rfl rfl rfl ?_
          refine h_aload_n (pc' := 1) rfl rfl rfl ?_
          refine h_getI (pc' := 4) (v := sq186 63 2) rfl rfl rfl rfl rfl es191.2.2.2.2.1 (fun z192 hz192 => ?_)
          have tz192 := tf_63_2 Isq186
          refine h_zne (tg := 37) (pc' := 7) rfl rfl rfl hz192 (fun c193 => ?_) (fun c193 => absurd c193 (by omega))
          clear hz192
          refine h_vret rfl rfl (h_Kn ?_)
          refine h_iinc (pc' := 80) (M := fun z194 => [(1, .int z194), (0, .ref 63)]) rfl rfl rfl rfl hx1 ci_1 rfl (by omega) (by omega) (fun _ => rfl) (fun z194 hz194 => ?_)
          refine h_goto (pc' := 35) rfl rfl ?_
          refine d_toM (g_inj ns) hlq186 hRq186 (fun lvw195 memw195 hlw195 hRw195 => ?_)
          show h_T g_P (g_Y ns) 154 165 [(0, .ref 98)] [] tq186 _
          refine h_aload_n (pc' := 166) rfl rfl rfl ?_
          refine h_call (sp := false) (pc' := 169) (M := [(0, .ref 98)]) rfl rfl rfl rfl rfl rfl rfl rfl ?_
          refine h_aload_n (pc' := 1) rfl rfl rfl ?_
          refine h_getI (pc' := 4) (v := tq186 98 13) rfl rfl rfl rfl rfl rfl (fun z196 hz196 => ?_)
          have tz196 := tf_98_13 Itq186
          refine h_zle (tg := 8) (pc' := 7) rfl rfl rfl hz196 (fun c197 => absurd c197 (by omega)) (fun c197 => ?_)
          clear hz196
          refine h_vret rfl rfl (h_Kn ?_)
          refine h_vret rfl rfl (d_retn hlv181 ?_)
          refine h_iinc (pc' := 83) (M := fun z198 => [(1, .int z198), (0, .ref 98)]) rfl rfl rfl rfl hy1 ci_1 rfl (by omega) (by omega) (fun _ => rfl) (fun z198 hz198 => ?_)
          refine h_goto (pc' := 62) rfl rfl ?_
          refine d_toL (g_inj ns) hlw195 hRw195 (fun lvw199 memw199 hlw199 hRw199 => ?_)
          show h_T g_P (g_Y ns) 52 35 [(1, .int z194), (0, .ref 63)] [] s191 _
          exact h_wk [(0, .ref 63), (1, .int z194)] ⟨rfl, rfl, trivial⟩ (ih _ _ Is191 Itq186 Fs191 Ftq186 z194 _ hz194 z198 _ hz198 (Int.le_antisymm (by omega) (by omega)) (Int.le_antisymm (by omega) (by omega)) (Int.le_antisymm (by omega) (by omega)) (by omega) (Int.le_antisymm (by omega) (by omega)) (Int.le_antisymm (by omega) (by omega)) (⟨by omega, by omega⟩) (fun h => absurd h (by omega)) (Or.inl ⟨⟨by omega, by omega⟩, ⟨by omega, by omega⟩, Int.le_antisymm (by omega) (by omega), Int.le_antisymm (by omega) (by omega)⟩) (by omega) _ _ (h_al_ok ⟨rfl, rfl, trivial⟩ hlw199) hRw199)
        · show h_T g_P (g_Y ns) 56 180 [(0, .ref 63)] [] sq186 _
          clear hr182
          refine h_vret rfl rfl (d_retn hlv173 ?_)
          refine h_aload_n (pc' := 64) rfl rfl rfl ?_
          refine h_dup (pc' := 65) rfl rfl rfl ?_
          refine h_getI (pc' := 68) (v := s0 63 4) rfl rfl rfl rfl rfl esq186_13 (fun z200 hz200 => ?_)
          have tz200 := tf_63_4 I0
          refine h_iconst (pc' := 69) (x := (Int32.ofInt 1)) rfl rfl rfl ?_
          refine h_iadd (pc' := 70) rfl rfl hz200 ci_1 rfl (by have g0 := h_rgv hz200; omega) (by have g0 := h_rgv hz200; omega) (fun z201 hz201 => ?_)
          clear hz200
          refine h_put (pc' := 73) rfl rfl rfl rfl rfl rfl hz201 rfl (h_fgt (E := fun s => s 64 2 = sq186 64 2 ∧ s 64 4 = sq186 64 4 ∧ s 64 3 = sq186 64 3 ∧ s 64 5 = sq186 64 5 ∧ s 63 2 = sq186 63 2 ∧ s 63 3 = sq186 63 3 ∧ s 64 1 = s0 64 1 ∧ s 66 8 = sq186 66 8 ∧ s 66 9 = sq186 66 9 ∧ s 66 10 = sq186 66 10 ∧ s 69 2 = sq186 69 2 ∧ s 72 2 = sq186 72 2 ∧ s 63 5 = sq186 63 5 ∧ s 63 4 = ((s0 63 4) + 1) ∧ s = h_up sq186 63 4 ((s0 63 4) + 1)) _ (if_63_4 Isq186 (h_rgv hz201)) (Fsq186.up rfl) ⟨rfl, rfl, rfl, rfl, rfl, rfl, esq186_6, rfl, rfl, rfl, rfl, rfl, rfl, rfl, rfl⟩ (fun s202 Is202 Fs202 (es202 : s202 64 2 = sq186 64 2 ∧ s202 64 4 = sq186 64 4 ∧ s202 64 3 = sq186 64 3 ∧ s202 64 5 = sq186 64 5 ∧ s202 63 2 = sq186 63 2 ∧ s202 63 3 = sq186 63 3 ∧ s202 64 1 = s0 64 1 ∧ s202 66 8 = sq186 66 8 ∧ s202 66 9 = sq186 66 9 ∧ s202 66 10 = sq186 66 10 ∧ s202 69 2 = sq186 69 2 ∧ s202 72 2 = sq186 72 2 ∧ s202 63 5 = sq186 63 5 ∧ s202 63 4 = ((s0 63 4) + 1) ∧ s202 = h_up sq186 63 4 ((s0 63 4) + 1)) => ?_))
          have us202 := es202.2.2.2.2.2.2.2.2.2.2.2.2.2.2
          refine h_aload_n (pc' := 74) rfl rfl rfl ?_
          refine d_toM (g_inj ns) hlq186 hRq186 (fun lvw203 memw203 hlw203 hRw203 => ?_)
          show h_T g_P (g_Y ns) 154 165 [(0, .ref 98)] [] tq186 _
          refine h_aload_n (pc' := 166) rfl rfl rfl ?_
          refine d_pcall (g_inj ns) (m1 := 54) (pc1' := 77) (M1 := [(0, .ref 63)]) (rest1 := []) (m2 := 148) (pc2' := 169) (M2 := [(0, .ref 98)]) (rest2 := []) ⟨false, _, _, _, _, _, _, rfl, rfl, rfl, rfl, rfl, rfl, rfl⟩ ⟨false, _, _, _, _, _, _, rfl, rfl, rfl, rfl, rfl, rfl, rfl⟩ hRw203 ?_
          refine pp_step Is202 Itq186 (hTL.fr (Fs202.mono rfl) (Ftq186.mono rfl)) (Int.le_antisymm (by omega) (by omega)) (Int.le_antisymm (by omega) (by omega)) (Int.le_antisymm (by omega) (by omega)) (by omega) (Or.inr ⟨Int.le_antisymm (by omega) (by omega), Int.le_antisymm (by omega) (by omega)⟩) (fun sq204 tq204 Isq204 Itq204 Gsq204 Gtq204 yq204_0 yq204_1 yq204_2 yq204_3 yq204_4 pcq204 memq204 hRq204 => ?_)
          have Fsq204 := (Gsq204.mono (B := k_px) rfl).tr Fs202
          have Ftq204 := (Gtq204.mono (B := k_pm) rfl).tr Ftq186
          have esq204_6 : sq204 64 1 = s0 64 1 := (Gsq204 64 1 rfl).trans es202.2.2.2.2.2.2.1
          have esq204_7 : sq204 66 8 = sq186 66 8 := (Gsq204 66 8 rfl).trans es202.2.2.2.2.2.2.2.1
          have esq204_8 : sq204 66 9 = sq186 66 9 := (Gsq204 66 9 rfl).trans es202.2.2.2.2.2.2.2.2.1
          have esq204_9 : sq204 66 10 = sq186 66 10 := (Gsq204 66 10 rfl).trans es202.2.2.2.2.2.2.2.2.2.1
          have esq204_10 : sq204 69 2 = sq186 69 2 := (Gsq204 69 2 rfl).trans es202.2.2.2.2.2.2.2.2.2.2.1
          have esq204_11 : sq204 72 2 = sq186 72 2 := (Gsq204 72 2 rfl).trans es202.2.2.2.2.2.2.2.2.2.2.2.1
          have esq204_12 : sq204 63 5 = sq186 63 5 := (Gsq204 63 5 rfl).trans es202.2.2.2.2.2.2.2.2.2.2.2.2.1
          have esq204_13 : sq204 63 4 = ((s0 63 4) + 1) := (Gsq204 63 4 rfl).trans es202.2.2.2.2.2.2.2.2.2.2.2.2.2.1
          have etq204_6 : tq204 98 5 = tq186 98 5 := (Gtq204 98 5 rfl).trans rfl
          have etq204_7 : tq204 98 6 = tq186 98 6 := (Gtq204 98 6 rfl).trans rfl
          have etq204_8 : tq204 98 7 = tq186 98 7 := (Gtq204 98 7 rfl).trans rfl
          have etq204_9 : tq204 98 8 = tq186 98 8 := (Gtq204 98 8 rfl).trans rfl
          have etq204_10 : tq204 98 9 = tq186 98 9 := (Gtq204 98 9 rfl).trans rfl
          have etq204_11 : tq204 101 18 = tq186 101 18 := (Gtq204 101 18 rfl).trans rfl
          have etq204_12 : tq204 101 25 = tq186 101 25 := (Gtq204 101 25 rfl).trans rfl
          have etq204_13 : tq204 101 43 = tq186 101 43 := (Gtq204 101 43 rfl).trans rfl
          show h_T g_P (g_Y ns) 154 169 [(0, .ref 98)] [] tq204 _
          refine h_vret rfl rfl (d_retn hlv181 ?_)
          refine h_iinc (pc' := 83) (M := fun z205 => [(1, .int z205), (0, .ref 98)]) rfl rfl rfl rfl hy1 ci_1 rfl (by omega) (by omega) (fun _ => rfl) (fun z205 hz205 => ?_)
          refine h_goto (pc' := 62) rfl rfl ?_
          refine d_toL (g_inj ns) hlw203 hRq204 (fun lvw206 memw206 hlw206 hRw206 => ?_)
          show h_T g_P (g_Y ns) 52 77 [(0, .ref 63), (1, .int x1)] [] sq204 _
          refine h_iinc (pc' := 80) (M := fun z207 => [(1, .int z207), (0, .ref 63)]) rfl rfl rfl rfl hx1 ci_1 rfl (by omega) (by omega) (fun _ => rfl) (fun z207 hz207 => ?_)
          refine h_goto (pc' := 35) rfl rfl ?_
          exact h_wk [(0, .ref 63), (1, .int z207)] ⟨rfl, rfl, trivial⟩ (ih _ _ Isq204 Itq204 Fsq204 Ftq204 z207 _ hz207 z205 _ hz205 (Int.le_antisymm (by omega) (by omega)) (Int.le_antisymm (by omega) (by omega)) (Int.le_antisymm (by omega) (by omega)) (by omega) (Int.le_antisymm (by omega) (by omega)) (Int.le_antisymm (by omega) (by omega)) (⟨by omega, by omega⟩) (fun _ => d_mk ((Gsq204 66 8 rfl).trans (h_upo us202 rfl 8)) ((Gsq204 66 9 rfl).trans (h_upo us202 rfl 9)) ((Gsq204 66 10 rfl).trans (h_upo us202 rfl 10)) ((Gsq204 69 2 rfl).trans (h_upo us202 rfl 2)) ((Gsq204 72 2 rfl).trans (h_upo us202 rfl 2)) ((Gsq204 63 5 rfl).trans (h_upd us202 (by decide))) (fun j => (Gsq204 67 j rfl).trans (h_upo us202 rfl j)) (fun j => (Gsq204 68 j rfl).trans (h_upo us202 rfl j)) (fun j => (Gsq204 70 j rfl).trans (h_upo us202 rfl j)) (fun j => (Gsq204 71 j rfl).trans (h_upo us202 rfl j)) (fun j => (Gsq204 73 j rfl).trans (h_upo us202 rfl j)) (fun j => (Gsq204 74 j rfl).trans (h_upo us202 rfl j)) (fun j => (Gsq204 75 j rfl).trans (h_upo us202 rfl j)) (fun j => (Gsq204 76 j rfl).trans (h_upo us202 rfl j)) (fun j => (Gsq204 77 j rfl).trans (h_upo us202 rfl j)) (fun j => (Gsq204 78 j rfl).trans (h_upo us202 rfl j)) ((Gtq204 98 5 rfl)) ((Gtq204 98 6 rfl)) ((Gtq204 98 7 rfl)) ((Gtq204 98 8 rfl)) ((Gtq204 98 9 rfl)) (fun j => (Gtq204 101 j rfl)) (yq186_5 (by omega))) (pcq204.elim (fun pcq204 => (Or.inl ⟨⟨by omega, by omega⟩, ⟨by omega, by omega⟩, Int.le_antisymm (by omega) (by omega), Int.le_antisymm (by omega) (by omega)⟩)) (fun pcq204 => (pcq204.elim (fun pcq204 => (Or.inr (Or.inl ⟨Int.le_antisymm (by omega) (by omega), Int.le_antisymm (by omega) (by omega), Int.le_antisymm (by omega) (by omega), Int.le_antisymm (by omega) (by omega), Int.le_antisymm (by omega) (by omega)⟩))) (fun pcq204 => (pcq204.elim (fun pcq204 => (Or.inr (Or.inr (Or.inl ⟨Int.le_antisymm (by omega) (by omega), Int.le_antisymm (by omega) (by omega), Int.le_antisymm (by omega) (by omega), Int.le_antisymm (by omega) (by omega), by omega, by omega⟩)))) (fun pcq204 => (pcq204.elim (fun pcq204 => (Or.inr (Or.inr (Or.inr (Or.inl ⟨Int.le_antisymm (by omega) (by omega), Int.le_antisymm (by omega) (by omega), Int.le_antisymm (by omega) (by omega), Int.le_antisymm (by omega) (by omega), ⟨by omega, by omega⟩, ⟨by omega, by omega⟩, Int.le_antisymm (by omega) (by omega), by omega, by omega⟩))))) (fun pcq204 => (Or.inr (Or.inr (Or.inr (Or.inr ⟨Int.le_antisymm (by omega) (by omega), Int.le_antisymm (by omega) (by omega), Int.le_antisymm (by omega) (by omega), Int.le_antisymm (by omega) (by omega), by omega, by omega⟩)))))))))))) (by omega) _ _ (h_al_ok ⟨rfl, rfl, trivial⟩ hlw206) hRw206)
      · have Fsq187 := (Gsq187.mono (B := k_px) rfl).tr F0_
        have Ftq187 := (Gtq187.mono (B := k_pm) rfl).tr H0_
        have Isq187 := Isq187
        have Itq187 := Itq187
        have Gsq187 := Gsq187
        have Gtq187 := Gtq187
        have esq187_6 : sq187 64 1 = s0 64 1 := (Gsq187 64 1 rfl).trans rfl
        have esq187_13 : sq187 63 4 = s0 63 4 := (Gsq187 63 4 rfl).trans rfl
        show h_T g_P (g_Y ns) 56 180 [(0, .ref 63)] [] sq187 _
        clear hr182
        refine h_vret rfl rfl (d_retn hlv173 ?_)
        refine h_aload_n (pc' := 64) rfl rfl rfl ?_
        refine h_dup (pc' := 65) rfl rfl rfl ?_
        refine h_getI (pc' := 68) (v := s0 63 4) rfl rfl rfl rfl rfl esq187_13 (fun z208 hz208 => ?_)
        have tz208 := tf_63_4 I0
        refine h_iconst (pc' := 69) (x := (Int32.ofInt 1)) rfl rfl rfl ?_
        refine h_iadd (pc' := 70) rfl rfl hz208 ci_1 rfl (by have g0 := h_rgv hz208; omega) (by have g0 := h_rgv hz208; omega) (fun z209 hz209 => ?_)
        clear hz208
        refine h_put (pc' := 73) rfl rfl rfl rfl rfl rfl hz209 rfl (h_fgt (E := fun s => s 64 2 = sq187 64 2 ∧ s 64 4 = sq187 64 4 ∧ s 64 3 = sq187 64 3 ∧ s 64 5 = sq187 64 5 ∧ s 63 2 = sq187 63 2 ∧ s 63 3 = sq187 63 3 ∧ s 64 1 = s0 64 1 ∧ s 66 8 = sq187 66 8 ∧ s 66 9 = sq187 66 9 ∧ s 66 10 = sq187 66 10 ∧ s 69 2 = sq187 69 2 ∧ s 72 2 = sq187 72 2 ∧ s 63 5 = sq187 63 5 ∧ s 63 4 = ((s0 63 4) + 1) ∧ s = h_up sq187 63 4 ((s0 63 4) + 1)) _ (if_63_4 Isq187 (h_rgv hz209)) (Fsq187.up rfl) ⟨rfl, rfl, rfl, rfl, rfl, rfl, esq187_6, rfl, rfl, rfl, rfl, rfl, rfl, rfl, rfl⟩ (fun s210 Is210 Fs210 (es210 : s210 64 2 = sq187 64 2 ∧ s210 64 4 = sq187 64 4 ∧ s210 64 3 = sq187 64 3 ∧ s210 64 5 = sq187 64 5 ∧ s210 63 2 = sq187 63 2 ∧ s210 63 3 = sq187 63 3 ∧ s210 64 1 = s0 64 1 ∧ s210 66 8 = sq187 66 8 ∧ s210 66 9 = sq187 66 9 ∧ s210 66 10 = sq187 66 10 ∧ s210 69 2 = sq187 69 2 ∧ s210 72 2 = sq187 72 2 ∧ s210 63 5 = sq187 63 5 ∧ s210 63 4 = ((s0 63 4) + 1) ∧ s210 = h_up sq187 63 4 ((s0 63 4) + 1)) => ?_))
        have us210 := es210.2.2.2.2.2.2.2.2.2.2.2.2.2.2
        refine h_aload_n (pc' := 74) rfl rfl rfl ?_
        refine h_call (sp := false) (pc' := 77) (M := [(0, .ref 63)]) rfl rfl rfl rfl rfl rfl rfl rfl ?_
        refine h_aload_n (pc' := 1) rfl rfl rfl ?_
        refine h_getI (pc' := 4) (v := sq187 63 2) rfl rfl rfl rfl rfl es210.2.2.2.2.1 (fun z211 hz211 => ?_)
        have tz211 := tf_63_2 Isq187
        refine h_zne (tg := 37) (pc' := 7) rfl rfl rfl hz211 (fun c212 => ?_) (fun c212 => absurd c212 (by omega))
        clear hz211
        refine h_vret rfl rfl (h_Kn ?_)
        refine h_iinc (pc' := 80) (M := fun z213 => [(1, .int z213), (0, .ref 63)]) rfl rfl rfl rfl hx1 ci_1 rfl (by omega) (by omega) (fun _ => rfl) (fun z213 hz213 => ?_)
        refine h_goto (pc' := 35) rfl rfl ?_
        refine d_toM (g_inj ns) hlq187 hRq187 (fun lvw214 memw214 hlw214 hRw214 => ?_)
        show h_T g_P (g_Y ns) 154 139 [(0, .ref 98)] [] tq187 _
        refine h_vret rfl rfl (d_retn hlv181 ?_)
        refine h_iinc (pc' := 83) (M := fun z215 => [(1, .int z215), (0, .ref 98)]) rfl rfl rfl rfl hy1 ci_1 rfl (by omega) (by omega) (fun _ => rfl) (fun z215 hz215 => ?_)
        refine h_goto (pc' := 62) rfl rfl ?_
        refine d_toL (g_inj ns) hlw214 hRw214 (fun lvw216 memw216 hlw216 hRw216 => ?_)
        show h_T g_P (g_Y ns) 52 35 [(1, .int z213), (0, .ref 63)] [] s210 _
        exact h_wk [(0, .ref 63), (1, .int z213)] ⟨rfl, rfl, trivial⟩ (ih _ _ Is210 Itq187 Fs210 Ftq187 z213 _ hz213 z215 _ hz215 (Int.le_antisymm (by omega) (by omega)) (Int.le_antisymm (by omega) (by omega)) (Int.le_antisymm (by omega) (by omega)) (by omega) (Int.le_antisymm (by omega) (by omega)) (Int.le_antisymm (by omega) (by omega)) (⟨by omega, by omega⟩) (fun h => absurd h (by omega)) (Or.inl ⟨⟨by omega, by omega⟩, ⟨by omega, by omega⟩, Int.le_antisymm (by omega) (by omega), Int.le_antisymm (by omega) (by omega)⟩) (by omega) _ _ (h_al_ok ⟨rfl, rfl, trivial⟩ hlw216) hRw216)
      · have Fsq188 := (Gsq188.mono (B := k_px) rfl).tr F0_
        have Ftq188 := (Gtq188.mono (B := k_pm) rfl).tr H0_
        have Isq188 := Isq188
        have Itq188 := Itq188
        have Gsq188 := Gsq188
        have Gtq188 := Gtq188
        have esq188_6 : sq188 64 1 = s0 64 1 := (Gsq188 64 1 rfl).trans rfl
        have esq188_13 : sq188 63 4 = s0 63 4 := (Gsq188 63 4 rfl).trans rfl
        show h_T g_P (g_Y ns) 56 180 [(0, .ref 63)] [] sq188 _
        clear hr182
        refine h_vret rfl rfl (d_retn hlv173 ?_)
        refine h_aload_n (pc' := 64) rfl rfl rfl ?_
        refine h_dup (pc' := 65) rfl rfl rfl ?_
        refine h_getI (pc' := 68) (v := s0 63 4) rfl rfl rfl rfl rfl esq188_13 (fun z217 hz217 => ?_)
        have tz217 := tf_63_4 I0
        refine h_iconst (pc' := 69) (x := (Int32.ofInt 1)) rfl rfl rfl ?_
        refine h_iadd (pc' := 70) rfl rfl hz217 ci_1 rfl (by have g0 := h_rgv hz217; omega) (by have g0 := h_rgv hz217; omega) (fun z218 hz218 => ?_)
        clear hz217
        refine h_put (pc' := 73) rfl rfl rfl rfl rfl rfl hz218 rfl (h_fgt (E := fun s => s 64 2 = sq188 64 2 ∧ s 64 4 = sq188 64 4 ∧ s 64 3 = sq188 64 3 ∧ s 64 5 = sq188 64 5 ∧ s 63 2 = sq188 63 2 ∧ s 63 3 = sq188 63 3 ∧ s 64 1 = s0 64 1 ∧ s 66 8 = sq188 66 8 ∧ s 66 9 = sq188 66 9 ∧ s 66 10 = sq188 66 10 ∧ s 69 2 = sq188 69 2 ∧ s 72 2 = sq188 72 2 ∧ s 63 5 = sq188 63 5 ∧ s 63 4 = ((s0 63 4) + 1) ∧ s = h_up sq188 63 4 ((s0 63 4) + 1)) _ (if_63_4 Isq188 (h_rgv hz218)) (Fsq188.up rfl) ⟨rfl, rfl, rfl, rfl, rfl, rfl, esq188_6, rfl, rfl, rfl, rfl, rfl, rfl, rfl, rfl⟩ (fun s219 Is219 Fs219 (es219 : s219 64 2 = sq188 64 2 ∧ s219 64 4 = sq188 64 4 ∧ s219 64 3 = sq188 64 3 ∧ s219 64 5 = sq188 64 5 ∧ s219 63 2 = sq188 63 2 ∧ s219 63 3 = sq188 63 3 ∧ s219 64 1 = s0 64 1 ∧ s219 66 8 = sq188 66 8 ∧ s219 66 9 = sq188 66 9 ∧ s219 66 10 = sq188 66 10 ∧ s219 69 2 = sq188 69 2 ∧ s219 72 2 = sq188 72 2 ∧ s219 63 5 = sq188 63 5 ∧ s219 63 4 = ((s0 63 4) + 1) ∧ s219 = h_up sq188 63 4 ((s0 63 4) + 1)) => ?_))
        have us219 := es219.2.2.2.2.2.2.2.2.2.2.2.2.2.2
        refine h_aload_n (pc' := 74) rfl rfl rfl ?_
        refine h_call (sp := false) (pc' := 77) (M := [(0, .ref 63)]) rfl rfl rfl rfl rfl rfl rfl rfl ?_
        refine h_aload_n (pc' := 1) rfl rfl rfl ?_
        refine h_getI (pc' := 4) (v := sq188 63 2) rfl rfl rfl rfl rfl es219.2.2.2.2.1 (fun z220 hz220 => ?_)
        have tz220 := tf_63_2 Isq188
        refine h_zne (tg := 37) (pc' := 7) rfl rfl rfl hz220 (fun c221 => ?_) (fun c221 => absurd c221 (by omega))
        clear hz220
        refine h_vret rfl rfl (h_Kn ?_)
        refine h_iinc (pc' := 80) (M := fun z222 => [(1, .int z222), (0, .ref 63)]) rfl rfl rfl rfl hx1 ci_1 rfl (by omega) (by omega) (fun _ => rfl) (fun z222 hz222 => ?_)
        refine h_goto (pc' := 35) rfl rfl ?_
        refine d_toM (g_inj ns) hlq188 hRq188 (fun lvw223 memw223 hlw223 hRw223 => ?_)
        show h_T g_P (g_Y ns) 154 22 [(0, .ref 98)] [] tq188 _
        refine h_vret rfl rfl (d_retn hlv181 ?_)
        refine h_iinc (pc' := 83) (M := fun z224 => [(1, .int z224), (0, .ref 98)]) rfl rfl rfl rfl hy1 ci_1 rfl (by omega) (by omega) (fun _ => rfl) (fun z224 hz224 => ?_)
        refine h_goto (pc' := 62) rfl rfl ?_
        refine d_toL (g_inj ns) hlw223 hRw223 (fun lvw225 memw225 hlw225 hRw225 => ?_)
        show h_T g_P (g_Y ns) 52 35 [(1, .int z222), (0, .ref 63)] [] s219 _
        exact h_wk [(0, .ref 63), (1, .int z222)] ⟨rfl, rfl, trivial⟩ (ih _ _ Is219 Itq188 Fs219 Ftq188 z222 _ hz222 z224 _ hz224 (Int.le_antisymm (by omega) (by omega)) (Int.le_antisymm (by omega) (by omega)) (Int.le_antisymm (by omega) (by omega)) (by omega) (Int.le_antisymm (by omega) (by omega)) (Int.le_antisymm (by omega) (by omega)) (⟨by omega, by omega⟩) (fun h => absurd h (by omega)) (Or.inl ⟨⟨by omega, by omega⟩, ⟨by omega, by omega⟩, Int.le_antisymm (by omega) (by omega), Int.le_antisymm (by omega) (by omega)⟩) (by omega) _ _ (h_al_ok ⟨rfl, rfl, trivial⟩ hlw225) hRw225)
