set_option maxHeartbeats 100000000 in
theorem lp_tx {ns : Nat} {σ1 σ2 : h_S} (hI1 : h_I σ1) (hI2 : h_I σ2) (hTL : d_tape σ1 σ2) {cs1 cs2 : List d_Fr} {Q : d_Q} (kx0 : ∀ (s t : h_S), h_I s → h_I t → h_F (k_in k_px) s σ1 → h_F (k_in k_pm) t σ2 → ∀ (y1 : Int32) (c1 : Int), y1.toInt = c1 → (s 64 2 = t 98 15) → (s 64 4 = t 98 16) → (s 63 2 = t 98 13) → (s 64 2 ≤ s 64 1) → (s 63 4 = c1) → (0 ≤ c1 ∧ c1 ≤ 160) → (d_ok s t) → (((1 ≤ s 63 2 ∧ s 63 2 ≤ 6) ∧ (1 ≤ t 98 13 ∧ t 98 13 ≤ 6) ∧ (s 63 2 = t 98 13) ∧ (s 63 3 = t 98 14)) ∨ ((s 63 2 = 0) ∧ (s 64 3 = 0) ∧ (t 98 13 = 0) ∧ (t 98 17 = 0) ∧ (s 64 4 = s 64 1))) → ∀ lv2 mem2, h_loc [(0, .ref 98), (1, .int y1)] lv2 → h_R (g_Y ns) t mem2 → h_T g_P (g_Y ns) 52 83 [(0, .ref 63)] [] s (d_cs g_P (g_Y ns) cs1 (d_L g_P (g_Y ns) (155, 86, lv2, []) cs2 mem2 Q))) : ∀ (n : Nat) (s t : h_S), h_I s → h_I t → h_F (k_in k_px) s σ1 → h_F (k_in k_pm) t σ2 → ∀ (x1 : Int32) (a1 : Int), x1.toInt = a1 → ∀ (y1 : Int32) (c1 : Int), y1.toInt = c1 → (s 64 2 = t 98 15) → (s 64 4 = t 98 16) → (s 63 2 = t 98 13) → (s 64 2 ≤ s 64 1) → (s 63 4 = a1) → (a1 = c1) → (0 ≤ a1 ∧ a1 ≤ 160) → (d_ok s t) → (((1 ≤ s 63 2 ∧ s 63 2 ≤ 6) ∧ (1 ≤ t 98 13 ∧ t 98 13 ≤ 6) ∧ (s 63 2 = t 98 13) ∧ (s 63 3 = t 98 14)) ∨ ((s 63 2 = 0) ∧ (s 64 3 = 0) ∧ (t 98 13 = 0) ∧ (t 98 17 = 0) ∧ (s 64 4 = s 64 1)) ∨ ((s 63 2 = 0) ∧ (s 64 3 = 1) ∧ (t 98 13 = 0) ∧ (t 98 17 = 1) ∧ (s 64 4 < s 64 2) ∧ (a1 < s 64 2)) ∨ ((s 63 2 = 0) ∧ (s 64 3 = 2) ∧ (t 98 13 = 0) ∧ (t 98 17 = 2) ∧ (0 ≤ s 64 5 ∧ s 64 5 ≤ 99) ∧ (0 ≤ t 98 18 ∧ t 98 18 ≤ 99) ∧ (s 64 5 = t 98 18) ∧ (s 64 4 < s 64 2) ∧ (a1 < s 64 2)) ∨ ((s 63 2 = 0) ∧ (s 64 3 = 3) ∧ (t 98 13 = 0) ∧ (t 98 17 = 3) ∧ (s 64 4 < s 64 2) ∧ (a1 < s 64 2))) → 161 - a1 ≤ (n : Int) → ∀ lv2 mem2, h_loc [(0, .ref 98), (1, .int y1)] lv2 → h_R (g_Y ns) t mem2 → h_T g_P (g_Y ns) 52 35 [(0, .ref 63), (1, .int x1)] [] s (d_cs g_P (g_Y ns) cs1 (d_L g_P (g_Y ns) (155, 62, lv2, []) cs2 mem2 Q)) := by
  have hT := hTL.1
  have hL := hTL.2
  intro n
  induction n with
  | zero => intro s0 t0 I0 J0 F0_ H0_ x1 a1 hx1 y1 c1 hy1 ex0 ex1 ex2 ex3 ex4 ex5 ex6 ex7 pc0 hm lv2 mem2 hl2 hR2; have ge0 := tf_64_1 hI1; have ge1 := tf_64_2 I0; have ge2 := tf_63_2 I0; have ge3 := F0_ 64 1 rfl; exfalso; omega
  | succ n ih =>
    intro s0 t0 I0 J0 F0_ H0_ x1 a1 hx1 y1 c1 hy1 ex0 ex1 ex2 ex3 ex4 ex5 ex6 ex7 pc0 hm lv2 mem2 hl2 hR2; have ge0 := tf_64_1 hI1; have ge1 := tf_64_2 I0; have ge2 := tf_63_2 I0; have ge3 := F0_ 64 1 rfl
    rcases pc0 with pc0 | pc0 | pc0 | pc0 | pc0
    · show h_T g_P (g_Y ns) 52 35 [(0, .ref 63), (1, .int x1)] [] s0 _
      refine h_iload_n (pc' := 36) rfl rfl rfl ?_
      refine h_sipush (pc' := 39) (x := (Int32.ofInt 160)) rfl rfl cs_160 ?_
      refine h_cge (tg := 83) (pc' := 42) rfl rfl rfl hx1 ci_160 (fun c1 => ?_) (fun c1 => ?_)
      · refine d_toM (g_inj ns) hl2 hR2 (fun lvw2 memw2 hlw2 hRw2 => ?_)
        show h_T g_P (g_Y ns) 155 62 [(0, .ref 98), (1, .int y1)] [] t0 _
        refine h_aload_n (pc' := 63) rfl rfl rfl ?_
        refine h_getI (pc' := 66) (v := t0 98 13) rfl rfl rfl rfl rfl rfl (fun z3 hz3 => ?_)
        have tz3 := tf_98_13 J0
        refine h_zne (tg := 86) (pc' := 69) rfl rfl rfl hz3 (fun c4 => ?_) (fun c4 => absurd c4 (by omega))
        clear hz3
        refine d_toL (g_inj ns) hlw2 hRw2 (fun lvw5 memw5 hlw5 hRw5 => ?_)
        show h_T g_P (g_Y ns) 52 83 [(0, .ref 63), (1, .int x1)] [] s0 _
        exact h_wk [(0, .ref 63)] ⟨rfl, trivial⟩ (kx0 _ _ I0 J0 F0_ H0_ y1 _ hy1 (by omega) (by omega) (by omega) (by omega) (by omega) (by omega) (fun h => absurd h (by omega)) (Or.inl ⟨by omega, by omega, by omega, by omega⟩) _ _ (h_al_ok ⟨rfl, rfl, trivial⟩ hlw5) hRw5)
      · refine h_aload_n (pc' := 43) rfl rfl rfl ?_
        refine h_getI (pc' := 46) (v := s0 63 2) rfl rfl rfl rfl rfl rfl (fun z6 hz6 => ?_)
        have tz6 := tf_63_2 I0
        refine h_zne (tg := 83) (pc' := 49) rfl rfl rfl hz6 (fun c7 => ?_) (fun c7 => absurd c7 (by omega))
        clear hz6
        refine d_toM (g_inj ns) hl2 hR2 (fun lvw8 memw8 hlw8 hRw8 => ?_)
        show h_T g_P (g_Y ns) 155 62 [(0, .ref 98), (1, .int y1)] [] t0 _
        refine h_aload_n (pc' := 63) rfl rfl rfl ?_
        refine h_getI (pc' := 66) (v := t0 98 13) rfl rfl rfl rfl rfl rfl (fun z9 hz9 => ?_)
        have tz9 := tf_98_13 J0
        refine h_zne (tg := 86) (pc' := 69) rfl rfl rfl hz9 (fun c10 => ?_) (fun c10 => absurd c10 (by omega))
        clear hz9
        refine d_toL (g_inj ns) hlw8 hRw8 (fun lvw11 memw11 hlw11 hRw11 => ?_)
        show h_T g_P (g_Y ns) 52 83 [(0, .ref 63), (1, .int x1)] [] s0 _
        exact h_wk [(0, .ref 63)] ⟨rfl, trivial⟩ (kx0 _ _ I0 J0 F0_ H0_ y1 _ hy1 (by omega) (by omega) (by omega) (by omega) (by omega) (by omega) (fun h => absurd h (by omega)) (Or.inl ⟨by omega, by omega, by omega, by omega⟩) _ _ (h_al_ok ⟨rfl, rfl, trivial⟩ hlw11) hRw11)
    · show h_T g_P (g_Y ns) 52 35 [(0, .ref 63), (1, .int x1)] [] s0 _
      refine h_iload_n (pc' := 36) rfl rfl rfl ?_
      refine h_sipush (pc' := 39) (x := (Int32.ofInt 160)) rfl rfl cs_160 ?_
      refine h_cge (tg := 83) (pc' := 42) rfl rfl rfl hx1 ci_160 (fun c12 => ?_) (fun c12 => ?_)
      · refine d_toM (g_inj ns) hl2 hR2 (fun lvw13 memw13 hlw13 hRw13 => ?_)
        show h_T g_P (g_Y ns) 155 62 [(0, .ref 98), (1, .int y1)] [] t0 _
        refine h_aload_n (pc' := 63) rfl rfl rfl ?_
        refine h_getI (pc' := 66) (v := t0 98 13) rfl rfl rfl rfl rfl rfl (fun z14 hz14 => ?_)
        have tz14 := tf_98_13 J0
        refine h_zne (tg := 86) (pc' := 69) rfl rfl rfl hz14 (fun c15 => absurd c15 (by omega)) (fun c15 => ?_)
        clear hz14
        refine h_aload_n (pc' := 70) rfl rfl rfl ?_
        refine h_getI (pc' := 73) (v := t0 98 17) rfl rfl rfl rfl rfl rfl (fun z16 hz16 => ?_)
        have tz16 := tf_98_17 J0
        refine h_zeq (tg := 86) (pc' := 76) rfl rfl rfl hz16 (fun c17 => ?_) (fun c17 => absurd c17 (by omega))
        clear hz16
        refine d_toL (g_inj ns) hlw13 hRw13 (fun lvw18 memw18 hlw18 hRw18 => ?_)
        show h_T g_P (g_Y ns) 52 83 [(0, .ref 63), (1, .int x1)] [] s0 _
        exact h_wk [(0, .ref 63)] ⟨rfl, trivial⟩ (kx0 _ _ I0 J0 F0_ H0_ y1 _ hy1 (by omega) (by omega) (by omega) (by omega) (by omega) (by omega) (ex7) (Or.inr ⟨by omega, by omega, by omega, by omega, by omega⟩) _ _ (h_al_ok ⟨rfl, rfl, trivial⟩ hlw18) hRw18)
      · refine h_aload_n (pc' := 43) rfl rfl rfl ?_
        refine h_getI (pc' := 46) (v := s0 63 2) rfl rfl rfl rfl rfl rfl (fun z19 hz19 => ?_)
        have tz19 := tf_63_2 I0
        refine h_zne (tg := 83) (pc' := 49) rfl rfl rfl hz19 (fun c20 => absurd c20 (by omega)) (fun c20 => ?_)
        clear hz19
        refine h_aload_n (pc' := 50) rfl rfl rfl ?_
        refine h_getR (pc' := 53) rfl rfl rfl rfl rfl ?_
        refine h_getI (pc' := 56) (v := s0 64 3) rfl rfl rfl rfl rfl rfl (fun z21 hz21 => ?_)
        have tz21 := tf_64_3 I0
        refine h_zeq (tg := 83) (pc' := 59) rfl rfl rfl hz21 (fun c22 => ?_) (fun c22 => absurd c22 (by omega))
        clear hz21
        refine d_toM (g_inj ns) hl2 hR2 (fun lvw23 memw23 hlw23 hRw23 => ?_)
        show h_T g_P (g_Y ns) 155 62 [(0, .ref 98), (1, .int y1)] [] t0 _
        refine h_aload_n (pc' := 63) rfl rfl rfl ?_
        refine h_getI (pc' := 66) (v := t0 98 13) rfl rfl rfl rfl rfl rfl (fun z24 hz24 => ?_)
        have tz24 := tf_98_13 J0
        refine h_zne (tg := 86) (pc' := 69) rfl rfl rfl hz24 (fun c25 => absurd c25 (by omega)) (fun c25 => ?_)
        clear hz24
        refine h_aload_n (pc' := 70) rfl rfl rfl ?_
        refine h_getI (pc' := 73) (v := t0 98 17) rfl rfl rfl rfl rfl rfl (fun z26 hz26 => ?_)
        have tz26 := tf_98_17 J0
        refine h_zeq (tg := 86) (pc' := 76) rfl rfl rfl hz26 (fun c27 => ?_) (fun c27 => absurd c27 (by omega))
        clear hz26
        refine d_toL (g_inj ns) hlw23 hRw23 (fun lvw28 memw28 hlw28 hRw28 => ?_)
        show h_T g_P (g_Y ns) 52 83 [(0, .ref 63), (1, .int x1)] [] s0 _
        exact h_wk [(0, .ref 63)] ⟨rfl, trivial⟩ (kx0 _ _ I0 J0 F0_ H0_ y1 _ hy1 (by omega) (by omega) (by omega) (by omega) (by omega) (by omega) (ex7) (Or.inr ⟨by omega, by omega, by omega, by omega, by omega⟩) _ _ (h_al_ok ⟨rfl, rfl, trivial⟩ hlw28) hRw28)
    · show h_T g_P (g_Y ns) 52 35 [(0, .ref 63), (1, .int x1)] [] s0 _
      refine h_iload_n (pc' := 36) rfl rfl rfl ?_
      refine h_sipush (pc' := 39) (x := (Int32.ofInt 160)) rfl rfl cs_160 ?_
      refine h_cge (tg := 83) (pc' := 42) rfl rfl rfl hx1 ci_160 (fun c29 => absurd c29 (by omega)) (fun c29 => ?_)
      refine h_aload_n (pc' := 43) rfl rfl rfl ?_
      refine h_getI (pc' := 46) (v := s0 63 2) rfl rfl rfl rfl rfl rfl (fun z30 hz30 => ?_)
      have tz30 := tf_63_2 I0
      refine h_zne (tg := 83) (pc' := 49) rfl rfl rfl hz30 (fun c31 => absurd c31 (by omega)) (fun c31 => ?_)
      clear hz30
      refine h_aload_n (pc' := 50) rfl rfl rfl ?_
      refine h_getR (pc' := 53) rfl rfl rfl rfl rfl ?_
      refine h_getI (pc' := 56) (v := s0 64 3) rfl rfl rfl rfl rfl rfl (fun z32 hz32 => ?_)
      have tz32 := tf_64_3 I0
      refine h_zeq (tg := 83) (pc' := 59) rfl rfl rfl hz32 (fun c33 => absurd c33 (by omega)) (fun c33 => ?_)
      clear hz32
      refine h_aload_n (pc' := 60) rfl rfl rfl ?_
      refine d_call (g_inj ns) (pc' := 63) (m := 56) (M := [(0, .ref 63)]) (rest := []) ⟨false, _, _, _, _, _, _, rfl, rfl, rfl, rfl, rfl, rfl, rfl⟩ (fun lv34 hlv34 => ?_)
      refine h_aload_n (pc' := 1) rfl rfl rfl ?_
      refine h_getR (pc' := 4) rfl rfl rfl rfl rfl ?_
      refine h_getI (pc' := 7) (v := s0 64 3) rfl rfl rfl rfl rfl rfl (fun z35 hz35 => ?_)
      refine h_iconst (pc' := 8) (x := (Int32.ofInt 1)) rfl rfl rfl ?_
      refine h_cne (tg := 21) (pc' := 11) rfl rfl rfl hz35 ci_1 (fun c36 => absurd c36 (by omega)) (fun c36 => ?_)
      clear hz35
      refine h_aload_n (pc' := 12) rfl rfl rfl ?_
      refine h_getR (pc' := 15) rfl rfl rfl rfl rfl ?_
      refine h_call (sp := false) (pc' := 18) (M := [(0, .ref 64)]) rfl rfl rfl rfl rfl rfl rfl rfl ?_
      refine n_whichName _ I0  (fun r37 br37 hr37 tr37 ps38_0 => h_Kv ?_)
      refine h_goto (pc' := 23) rfl rfl ?_
      refine h_istore_n (pc' := 24) (M := [(1, .int r37), (0, .ref 63)]) rfl rfl rfl rfl ?_
      refine d_toM (g_inj ns) hl2 hR2 (fun lvw39 memw39 hlw39 hRw39 => ?_)
      show h_T g_P (g_Y ns) 155 62 [(0, .ref 98), (1, .int y1)] [] t0 _
      refine h_aload_n (pc' := 63) rfl rfl rfl ?_
      refine h_getI (pc' := 66) (v := t0 98 13) rfl rfl rfl rfl rfl rfl (fun z40 hz40 => ?_)
      have tz40 := tf_98_13 J0
      refine h_zne (tg := 86) (pc' := 69) rfl rfl rfl hz40 (fun c41 => absurd c41 (by omega)) (fun c41 => ?_)
      clear hz40
      refine h_aload_n (pc' := 70) rfl rfl rfl ?_
      refine h_getI (pc' := 73) (v := t0 98 17) rfl rfl rfl rfl rfl rfl (fun z42 hz42 => ?_)
      have tz42 := tf_98_17 J0
      refine h_zeq (tg := 86) (pc' := 76) rfl rfl rfl hz42 (fun c43 => absurd c43 (by omega)) (fun c43 => ?_)
      clear hz42
      refine h_aload_n (pc' := 77) rfl rfl rfl ?_
      refine d_call (g_inj ns) (pc' := 80) (m := 154) (M := [(0, .ref 98)]) (rest := []) ⟨false, _, _, _, _, _, _, rfl, rfl, rfl, rfl, rfl, rfl, rfl⟩ (fun lv44 hlv44 => ?_)
      refine h_aload_n (pc' := 1) rfl rfl rfl ?_
      refine h_call (sp := false) (pc' := 4) (M := [(0, .ref 98)]) rfl rfl rfl rfl rfl rfl rfl rfl ?_
      refine n_nameHere _ J0  (by omega) (by omega) (fun r45 br45 hr45 tr45 ps46_0 ps46_1 => h_Kv ?_)
      have ga48 := tf_64_4 I0
      have gw47 : br37 = br45 := g_word (hTL.fr (F0_.mono rfl) (H0_.mono rfl)) J0 (by omega) (by omega) (by omega) (by omega) ps38_0 (ps46_0 (by omega))
      refine h_istore_n (pc' := 5) (M := [(1, .int r45), (0, .ref 98)]) rfl rfl rfl rfl ?_
      refine d_toL (g_inj ns) hlw39 hRw39 (fun lvw49 memw49 hlw49 hRw49 => ?_)
      show h_T g_P (g_Y ns) 56 24 [(1, .int r37), (0, .ref 63)] [] s0 _
      refine h_wk [(0, .ref 63), (1, .int r37)] ⟨rfl, rfl, trivial⟩ (ls_ln I0 J0 (hTL.fr (F0_.mono rfl) (H0_.mono rfl)) r37 _ hr37 r45 _ hr45 (by omega) (by omega) (by omega) ((ex7 (by omega)).1.1) ((ex7 (by omega)).1.2.1) ((ex7 (by omega)).1.2.2.1) ((ex7 (by omega)).1.2.2.2.1) ((ex7 (by omega)).1.2.2.2.2.1) ((ex7 (by omega)).1.2.2.2.2.2.1) (by omega) (ex7 (by omega)) (by omega) (by omega) ⟨by omega, by omega⟩ (fun sq50 tq50 Isq50 Itq50 Gsq50 Gtq50   yq50_0 yq50_1 yq50_2 yq50_3 yq50_4 yq50_5 pcq50 lvq50 memq50 hlq50 hRq50 => ?_) (fun sq51 tq51 Isq51 Itq51 Gsq51 Gtq51   yq51_0 yq51_1 yq51_2 yq51_3 yq51_4 pcq51 lvq51 memq51 hlq51 hRq51 => ?_) (fun sq52 tq52 Isq52 Itq52 Gsq52 Gtq52   yq52_0 yq52_1 yq52_2 yq52_3 yq52_4 pcq52 lvq52 memq52 hlq52 hRq52 => ?_) _ _ (h_al_ok ⟨rfl, rfl, trivial⟩ hlw49) hRw49)
      · have Fsq50 := (Gsq50.mono (B := k_px) rfl).tr F0_
        have Ftq50 := (Gtq50.mono (B := k_pm) rfl).tr H0_
        have Isq50 := Isq50
        have Itq50 := Itq50
        have Gsq50 := Gsq50
        have Gtq50 := Gtq50
        have esq50_6 : sq50 64 1 = s0 64 1 := (Gsq50 64 1 rfl).trans rfl
        have esq50_13 : sq50 63 4 = s0 63 4 := (Gsq50 63 4 rfl).trans rfl
        rcases pcq50 with pcq50 | pcq50
        · show h_T g_P (g_Y ns) 56 180 [(0, .ref 63)] [] sq50 _
          clear hr37 hr45
          refine h_vret rfl rfl (d_retn hlv34 ?_)
          refine h_aload_n (pc' := 64) rfl rfl rfl ?_
          refine h_dup (pc' := 65) rfl rfl rfl ?_
          refine h_getI (pc' := 68) (v := s0 63 4) rfl rfl rfl rfl rfl esq50_13 (fun z53 hz53 => ?_)
          have tz53 := tf_63_4 I0
          refine h_iconst (pc' := 69) (x := (Int32.ofInt 1)) rfl rfl rfl ?_
          refine h_iadd (pc' := 70) rfl rfl hz53 ci_1 rfl (by have g0 := h_rgv hz53; omega) (by have g0 := h_rgv hz53; omega) (fun z54 hz54 => ?_)
          clear hz53
          refine h_put (pc' := 73) rfl rfl rfl rfl rfl rfl hz54 rfl (h_fgt (E := fun s => s 64 2 = sq50 64 2 ∧ s 64 4 = sq50 64 4 ∧ s 64 3 = sq50 64 3 ∧ s 64 5 = sq50 64 5 ∧ s 63 2 = sq50 63 2 ∧ s 63 3 = sq50 63 3 ∧ s 64 1 = s0 64 1 ∧ s 66 8 = sq50 66 8 ∧ s 66 9 = sq50 66 9 ∧ s 66 10 = sq50 66 10 ∧ s 69 2 = sq50 69 2 ∧ s 72 2 = sq50 72 2 ∧ s 63 5 = sq50 63 5 ∧ s 63 4 = ((s0 63 4) + 1) ∧ s = h_up sq50 63 4 ((s0 63 4) + 1)) _ (if_63_4 Isq50 (h_rgv hz54)) (Fsq50.up rfl) ⟨rfl, rfl, rfl, rfl, rfl, rfl, esq50_6, rfl, rfl, rfl, rfl, rfl, rfl, rfl, rfl⟩ (fun s55 Is55 Fs55 (es55 : s55 64 2 = sq50 64 2 ∧ s55 64 4 = sq50 64 4 ∧ s55 64 3 = sq50 64 3 ∧ s55 64 5 = sq50 64 5 ∧ s55 63 2 = sq50 63 2 ∧ s55 63 3 = sq50 63 3 ∧ s55 64 1 = s0 64 1 ∧ s55 66 8 = sq50 66 8 ∧ s55 66 9 = sq50 66 9 ∧ s55 66 10 = sq50 66 10 ∧ s55 69 2 = sq50 69 2 ∧ s55 72 2 = sq50 72 2 ∧ s55 63 5 = sq50 63 5 ∧ s55 63 4 = ((s0 63 4) + 1) ∧ s55 = h_up sq50 63 4 ((s0 63 4) + 1)) => ?_))
          refine h_aload_n (pc' := 74) rfl rfl rfl ?_
          refine h_call (sp := false) (pc' := 77) (M := [(0, .ref 63)]) rfl rfl rfl rfl rfl rfl rfl rfl ?_
          refine h_aload_n (pc' := 1) rfl rfl rfl ?_
          refine h_getI (pc' := 4) (v := sq50 63 2) rfl rfl rfl rfl rfl es55.2.2.2.2.1 (fun z56 hz56 => ?_)
          have tz56 := tf_63_2 Isq50
          refine h_zne (tg := 37) (pc' := 7) rfl rfl rfl hz56 (fun c57 => ?_) (fun c57 => absurd c57 (by omega))
          clear hz56
          refine h_vret rfl rfl (h_Kn ?_)
          refine h_iinc (pc' := 80) (M := fun z58 => [(1, .int z58), (0, .ref 63)]) rfl rfl rfl rfl hx1 ci_1 rfl (by omega) (by omega) (fun _ => rfl) (fun z58 hz58 => ?_)
          refine h_goto (pc' := 35) rfl rfl ?_
          refine d_toM (g_inj ns) hlq50 hRq50 (fun lvw59 memw59 hlw59 hRw59 => ?_)
          show h_T g_P (g_Y ns) 154 165 [(0, .ref 98)] [] tq50 _
          refine h_aload_n (pc' := 166) rfl rfl rfl ?_
          refine h_call (sp := false) (pc' := 169) (M := [(0, .ref 98)]) rfl rfl rfl rfl rfl rfl rfl rfl ?_
          refine h_aload_n (pc' := 1) rfl rfl rfl ?_
          refine h_getI (pc' := 4) (v := tq50 98 13) rfl rfl rfl rfl rfl rfl (fun z60 hz60 => ?_)
          have tz60 := tf_98_13 Itq50
          refine h_zle (tg := 8) (pc' := 7) rfl rfl rfl hz60 (fun c61 => absurd c61 (by omega)) (fun c61 => ?_)
          clear hz60
          refine h_vret rfl rfl (h_Kn ?_)
          refine h_vret rfl rfl (d_retn hlv44 ?_)
          refine h_iinc (pc' := 83) (M := fun z62 => [(1, .int z62), (0, .ref 98)]) rfl rfl rfl rfl hy1 ci_1 rfl (by omega) (by omega) (fun _ => rfl) (fun z62 hz62 => ?_)
          refine h_goto (pc' := 62) rfl rfl ?_
          refine d_toL (g_inj ns) hlw59 hRw59 (fun lvw63 memw63 hlw63 hRw63 => ?_)
          show h_T g_P (g_Y ns) 52 35 [(1, .int z58), (0, .ref 63)] [] s55 _
          exact h_wk [(0, .ref 63), (1, .int z58)] ⟨rfl, rfl, trivial⟩ (ih _ _ Is55 Itq50 Fs55 Ftq50 z58 _ hz58 z62 _ hz62 (by omega) (by omega) (by omega) (by omega) (by omega) (by omega) (by omega) (fun h => absurd h (by omega)) (Or.inl ⟨by omega, by omega, by omega, by omega⟩) (by omega) _ _ (h_al_ok ⟨rfl, rfl, trivial⟩ hlw63) hRw63)
        · show h_T g_P (g_Y ns) 56 180 [(0, .ref 63)] [] sq50 _
          clear hr37 hr45
          refine h_vret rfl rfl (d_retn hlv34 ?_)
          refine h_aload_n (pc' := 64) rfl rfl rfl ?_
          refine h_dup (pc' := 65) rfl rfl rfl ?_
          refine h_getI (pc' := 68) (v := s0 63 4) rfl rfl rfl rfl rfl esq50_13 (fun z64 hz64 => ?_)
          have tz64 := tf_63_4 I0
          refine h_iconst (pc' := 69) (x := (Int32.ofInt 1)) rfl rfl rfl ?_
          refine h_iadd (pc' := 70) rfl rfl hz64 ci_1 rfl (by have g0 := h_rgv hz64; omega) (by have g0 := h_rgv hz64; omega) (fun z65 hz65 => ?_)
          clear hz64
          refine h_put (pc' := 73) rfl rfl rfl rfl rfl rfl hz65 rfl (h_fgt (E := fun s => s 64 2 = sq50 64 2 ∧ s 64 4 = sq50 64 4 ∧ s 64 3 = sq50 64 3 ∧ s 64 5 = sq50 64 5 ∧ s 63 2 = sq50 63 2 ∧ s 63 3 = sq50 63 3 ∧ s 64 1 = s0 64 1 ∧ s 66 8 = sq50 66 8 ∧ s 66 9 = sq50 66 9 ∧ s 66 10 = sq50 66 10 ∧ s 69 2 = sq50 69 2 ∧ s 72 2 = sq50 72 2 ∧ s 63 5 = sq50 63 5 ∧ s 63 4 = ((s0 63 4) + 1) ∧ s = h_up sq50 63 4 ((s0 63 4) + 1)) _ (if_63_4 Isq50 (h_rgv hz65)) (Fsq50.up rfl) ⟨rfl, rfl, rfl, rfl, rfl, rfl, esq50_6, rfl, rfl, rfl, rfl, rfl, rfl, rfl, rfl⟩ (fun s66 Is66 Fs66 (es66 : s66 64 2 = sq50 64 2 ∧ s66 64 4 = sq50 64 4 ∧ s66 64 3 = sq50 64 3 ∧ s66 64 5 = sq50 64 5 ∧ s66 63 2 = sq50 63 2 ∧ s66 63 3 = sq50 63 3 ∧ s66 64 1 = s0 64 1 ∧ s66 66 8 = sq50 66 8 ∧ s66 66 9 = sq50 66 9 ∧ s66 66 10 = sq50 66 10 ∧ s66 69 2 = sq50 69 2 ∧ s66 72 2 = sq50 72 2 ∧ s66 63 5 = sq50 63 5 ∧ s66 63 4 = ((s0 63 4) + 1) ∧ s66 = h_up sq50 63 4 ((s0 63 4) + 1)) => ?_))
          refine h_aload_n (pc' := 74) rfl rfl rfl ?_
          refine d_toM (g_inj ns) hlq50 hRq50 (fun lvw67 memw67 hlw67 hRw67 => ?_)
          show h_T g_P (g_Y ns) 154 165 [(0, .ref 98)] [] tq50 _
          refine h_aload_n (pc' := 166) rfl rfl rfl ?_
          refine d_pcall (g_inj ns) (m1 := 54) (pc1' := 77) (M1 := [(0, .ref 63)]) (rest1 := []) (m2 := 148) (pc2' := 169) (M2 := [(0, .ref 98)]) (rest2 := []) ⟨false, _, _, _, _, _, _, rfl, rfl, rfl, rfl, rfl, rfl, rfl⟩ ⟨false, _, _, _, _, _, _, rfl, rfl, rfl, rfl, rfl, rfl, rfl⟩ hRw67 ?_
          refine pp_step Is66 Itq50 (hTL.fr (Fs66.mono rfl) (Ftq50.mono rfl)) (by omega) (by omega) (by omega) (by omega) (Or.inr ⟨by omega, by omega⟩) (fun sq68 tq68 Isq68 Itq68 Gsq68 Gtq68 yq68_0 yq68_1 yq68_2 yq68_3 yq68_4 pcq68 memq68 hRq68 => ?_)
          have Fsq68 := (Gsq68.mono (B := k_px) rfl).tr Fs66
          have Ftq68 := (Gtq68.mono (B := k_pm) rfl).tr Ftq50
          have esq68_6 : sq68 64 1 = s0 64 1 := (Gsq68 64 1 rfl).trans es66.2.2.2.2.2.2.1
          have esq68_7 : sq68 66 8 = sq50 66 8 := (Gsq68 66 8 rfl).trans es66.2.2.2.2.2.2.2.1
          have esq68_8 : sq68 66 9 = sq50 66 9 := (Gsq68 66 9 rfl).trans es66.2.2.2.2.2.2.2.2.1
          have esq68_9 : sq68 66 10 = sq50 66 10 := (Gsq68 66 10 rfl).trans es66.2.2.2.2.2.2.2.2.2.1
          have esq68_10 : sq68 69 2 = sq50 69 2 := (Gsq68 69 2 rfl).trans es66.2.2.2.2.2.2.2.2.2.2.1
          have esq68_11 : sq68 72 2 = sq50 72 2 := (Gsq68 72 2 rfl).trans es66.2.2.2.2.2.2.2.2.2.2.2.1
          have esq68_12 : sq68 63 5 = sq50 63 5 := (Gsq68 63 5 rfl).trans es66.2.2.2.2.2.2.2.2.2.2.2.2.1
          have esq68_13 : sq68 63 4 = ((s0 63 4) + 1) := (Gsq68 63 4 rfl).trans es66.2.2.2.2.2.2.2.2.2.2.2.2.2.1
          have etq68_6 : tq68 98 5 = tq50 98 5 := (Gtq68 98 5 rfl).trans rfl
          have etq68_7 : tq68 98 6 = tq50 98 6 := (Gtq68 98 6 rfl).trans rfl
          have etq68_8 : tq68 98 7 = tq50 98 7 := (Gtq68 98 7 rfl).trans rfl
          have etq68_9 : tq68 98 8 = tq50 98 8 := (Gtq68 98 8 rfl).trans rfl
          have etq68_10 : tq68 98 9 = tq50 98 9 := (Gtq68 98 9 rfl).trans rfl
          have etq68_11 : tq68 101 18 = tq50 101 18 := (Gtq68 101 18 rfl).trans rfl
          have etq68_12 : tq68 101 25 = tq50 101 25 := (Gtq68 101 25 rfl).trans rfl
          have etq68_13 : tq68 101 43 = tq50 101 43 := (Gtq68 101 43 rfl).trans rfl
          show h_T g_P (g_Y ns) 154 169 [(0, .ref 98)] [] tq68 _
          refine h_vret rfl rfl (d_retn hlv44 ?_)
          refine h_iinc (pc' := 83) (M := fun z69 => [(1, .int z69), (0, .ref 98)]) rfl rfl rfl rfl hy1 ci_1 rfl (by omega) (by omega) (fun _ => rfl) (fun z69 hz69 => ?_)
          refine h_goto (pc' := 62) rfl rfl ?_
          refine d_toL (g_inj ns) hlw67 hRq68 (fun lvw70 memw70 hlw70 hRw70 => ?_)
          show h_T g_P (g_Y ns) 52 77 [(0, .ref 63), (1, .int x1)] [] sq68 _
          refine h_iinc (pc' := 80) (M := fun z71 => [(1, .int z71), (0, .ref 63)]) rfl rfl rfl rfl hx1 ci_1 rfl (by omega) (by omega) (fun _ => rfl) (fun z71 hz71 => ?_)
          refine h_goto (pc' := 35) rfl rfl ?_
          exact h_wk [(0, .ref 63), (1, .int z71)] ⟨rfl, rfl, trivial⟩ (ih _ _ Isq68 Itq68 Fsq68 Ftq68 z71 _ hz71 z69 _ hz69 (by omega) (by omega) (by omega) (by omega) (by omega) (by omega) (by omega) (fun _ => d_mk ((Gsq68 66 8 rfl).trans (h_upo es66.2.2.2.2.2.2.2.2.2.2.2.2.2.2 rfl 8)) ((Gsq68 66 9 rfl).trans (h_upo es66.2.2.2.2.2.2.2.2.2.2.2.2.2.2 rfl 9)) ((Gsq68 66 10 rfl).trans (h_upo es66.2.2.2.2.2.2.2.2.2.2.2.2.2.2 rfl 10)) ((Gsq68 69 2 rfl).trans (h_upo es66.2.2.2.2.2.2.2.2.2.2.2.2.2.2 rfl 2)) ((Gsq68 72 2 rfl).trans (h_upo es66.2.2.2.2.2.2.2.2.2.2.2.2.2.2 rfl 2)) ((Gsq68 63 5 rfl).trans (h_upd es66.2.2.2.2.2.2.2.2.2.2.2.2.2.2 (by decide))) (fun j => (Gsq68 67 j rfl).trans (h_upo es66.2.2.2.2.2.2.2.2.2.2.2.2.2.2 rfl j)) (fun j => (Gsq68 68 j rfl).trans (h_upo es66.2.2.2.2.2.2.2.2.2.2.2.2.2.2 rfl j)) (fun j => (Gsq68 70 j rfl).trans (h_upo es66.2.2.2.2.2.2.2.2.2.2.2.2.2.2 rfl j)) (fun j => (Gsq68 71 j rfl).trans (h_upo es66.2.2.2.2.2.2.2.2.2.2.2.2.2.2 rfl j)) (fun j => (Gsq68 73 j rfl).trans (h_upo es66.2.2.2.2.2.2.2.2.2.2.2.2.2.2 rfl j)) (fun j => (Gsq68 74 j rfl).trans (h_upo es66.2.2.2.2.2.2.2.2.2.2.2.2.2.2 rfl j)) (fun j => (Gsq68 75 j rfl).trans (h_upo es66.2.2.2.2.2.2.2.2.2.2.2.2.2.2 rfl j)) (fun j => (Gsq68 76 j rfl).trans (h_upo es66.2.2.2.2.2.2.2.2.2.2.2.2.2.2 rfl j)) (fun j => (Gsq68 77 j rfl).trans (h_upo es66.2.2.2.2.2.2.2.2.2.2.2.2.2.2 rfl j)) (fun j => (Gsq68 78 j rfl).trans (h_upo es66.2.2.2.2.2.2.2.2.2.2.2.2.2.2 rfl j)) ((Gtq68 98 5 rfl)) ((Gtq68 98 6 rfl)) ((Gtq68 98 7 rfl)) ((Gtq68 98 8 rfl)) ((Gtq68 98 9 rfl)) (fun j => (Gtq68 101 j rfl)) (yq50_5 (by omega))) (pcq68.elim (fun pcq68 => (Or.inl ⟨by omega, by omega, by omega, by omega⟩)) (fun pcq68 => (pcq68.elim (fun pcq68 => (Or.inr (Or.inl ⟨by omega, by omega, by omega, by omega, by omega⟩))) (fun pcq68 => (pcq68.elim (fun pcq68 => (Or.inr (Or.inr (Or.inl ⟨by omega, by omega, by omega, by omega, by omega, by omega⟩)))) (fun pcq68 => (pcq68.elim (fun pcq68 => (Or.inr (Or.inr (Or.inr (Or.inl ⟨by omega, by omega, by omega, by omega, by omega, by omega, by omega, by omega, by omega⟩))))) (fun pcq68 => (Or.inr (Or.inr (Or.inr (Or.inr ⟨by omega, by omega, by omega, by omega, by omega, by omega⟩)))))))))))) (by omega) _ _ (h_al_ok ⟨rfl, rfl, trivial⟩ hlw70) hRw70)
      · have Fsq51 := (Gsq51.mono (B := k_px) rfl).tr F0_
        have Ftq51 := (Gtq51.mono (B := k_pm) rfl).tr H0_
        have Isq51 := Isq51
        have Itq51 := Itq51
        have Gsq51 := Gsq51
        have Gtq51 := Gtq51
        have esq51_6 : sq51 64 1 = s0 64 1 := (Gsq51 64 1 rfl).trans rfl
        have esq51_13 : sq51 63 4 = s0 63 4 := (Gsq51 63 4 rfl).trans rfl
        show h_T g_P (g_Y ns) 56 180 [(0, .ref 63)] [] sq51 _
        clear hr37 hr45
        refine h_vret rfl rfl (d_retn hlv34 ?_)
        refine h_aload_n (pc' := 64) rfl rfl rfl ?_
        refine h_dup (pc' := 65) rfl rfl rfl ?_
        refine h_getI (pc' := 68) (v := s0 63 4) rfl rfl rfl rfl rfl esq51_13 (fun z72 hz72 => ?_)
        have tz72 := tf_63_4 I0
        refine h_iconst (pc' := 69) (x := (Int32.ofInt 1)) rfl rfl rfl ?_
        refine h_iadd (pc' := 70) rfl rfl hz72 ci_1 rfl (by have g0 := h_rgv hz72; omega) (by have g0 := h_rgv hz72; omega) (fun z73 hz73 => ?_)
        clear hz72
        refine h_put (pc' := 73) rfl rfl rfl rfl rfl rfl hz73 rfl (h_fgt (E := fun s => s 64 2 = sq51 64 2 ∧ s 64 4 = sq51 64 4 ∧ s 64 3 = sq51 64 3 ∧ s 64 5 = sq51 64 5 ∧ s 63 2 = sq51 63 2 ∧ s 63 3 = sq51 63 3 ∧ s 64 1 = s0 64 1 ∧ s 66 8 = sq51 66 8 ∧ s 66 9 = sq51 66 9 ∧ s 66 10 = sq51 66 10 ∧ s 69 2 = sq51 69 2 ∧ s 72 2 = sq51 72 2 ∧ s 63 5 = sq51 63 5 ∧ s 63 4 = ((s0 63 4) + 1) ∧ s = h_up sq51 63 4 ((s0 63 4) + 1)) _ (if_63_4 Isq51 (h_rgv hz73)) (Fsq51.up rfl) ⟨rfl, rfl, rfl, rfl, rfl, rfl, esq51_6, rfl, rfl, rfl, rfl, rfl, rfl, rfl, rfl⟩ (fun s74 Is74 Fs74 (es74 : s74 64 2 = sq51 64 2 ∧ s74 64 4 = sq51 64 4 ∧ s74 64 3 = sq51 64 3 ∧ s74 64 5 = sq51 64 5 ∧ s74 63 2 = sq51 63 2 ∧ s74 63 3 = sq51 63 3 ∧ s74 64 1 = s0 64 1 ∧ s74 66 8 = sq51 66 8 ∧ s74 66 9 = sq51 66 9 ∧ s74 66 10 = sq51 66 10 ∧ s74 69 2 = sq51 69 2 ∧ s74 72 2 = sq51 72 2 ∧ s74 63 5 = sq51 63 5 ∧ s74 63 4 = ((s0 63 4) + 1) ∧ s74 = h_up sq51 63 4 ((s0 63 4) + 1)) => ?_))
        refine h_aload_n (pc' := 74) rfl rfl rfl ?_
        refine h_call (sp := false) (pc' := 77) (M := [(0, .ref 63)]) rfl rfl rfl rfl rfl rfl rfl rfl ?_
        refine h_aload_n (pc' := 1) rfl rfl rfl ?_
        refine h_getI (pc' := 4) (v := sq51 63 2) rfl rfl rfl rfl rfl es74.2.2.2.2.1 (fun z75 hz75 => ?_)
        have tz75 := tf_63_2 Isq51
        refine h_zne (tg := 37) (pc' := 7) rfl rfl rfl hz75 (fun c76 => ?_) (fun c76 => absurd c76 (by omega))
        clear hz75
        refine h_vret rfl rfl (h_Kn ?_)
        refine h_iinc (pc' := 80) (M := fun z77 => [(1, .int z77), (0, .ref 63)]) rfl rfl rfl rfl hx1 ci_1 rfl (by omega) (by omega) (fun _ => rfl) (fun z77 hz77 => ?_)
        refine h_goto (pc' := 35) rfl rfl ?_
        refine d_toM (g_inj ns) hlq51 hRq51 (fun lvw78 memw78 hlw78 hRw78 => ?_)
        show h_T g_P (g_Y ns) 154 139 [(0, .ref 98)] [] tq51 _
        refine h_vret rfl rfl (d_retn hlv44 ?_)
        refine h_iinc (pc' := 83) (M := fun z79 => [(1, .int z79), (0, .ref 98)]) rfl rfl rfl rfl hy1 ci_1 rfl (by omega) (by omega) (fun _ => rfl) (fun z79 hz79 => ?_)
        refine h_goto (pc' := 62) rfl rfl ?_
        refine d_toL (g_inj ns) hlw78 hRw78 (fun lvw80 memw80 hlw80 hRw80 => ?_)
        show h_T g_P (g_Y ns) 52 35 [(1, .int z77), (0, .ref 63)] [] s74 _
        exact h_wk [(0, .ref 63), (1, .int z77)] ⟨rfl, rfl, trivial⟩ (ih _ _ Is74 Itq51 Fs74 Ftq51 z77 _ hz77 z79 _ hz79 (by omega) (by omega) (by omega) (by omega) (by omega) (by omega) (by omega) (fun h => absurd h (by omega)) (Or.inl ⟨by omega, by omega, by omega, by omega⟩) (by omega) _ _ (h_al_ok ⟨rfl, rfl, trivial⟩ hlw80) hRw80)
      · have Fsq52 := (Gsq52.mono (B := k_px) rfl).tr F0_
        have Ftq52 := (Gtq52.mono (B := k_pm) rfl).tr H0_
        have Isq52 := Isq52
        have Itq52 := Itq52
        have Gsq52 := Gsq52
        have Gtq52 := Gtq52
        have esq52_6 : sq52 64 1 = s0 64 1 := (Gsq52 64 1 rfl).trans rfl
        have esq52_13 : sq52 63 4 = s0 63 4 := (Gsq52 63 4 rfl).trans rfl
        show h_T g_P (g_Y ns) 56 180 [(0, .ref 63)] [] sq52 _
        clear hr37 hr45
        refine h_vret rfl rfl (d_retn hlv34 ?_)
        refine h_aload_n (pc' := 64) rfl rfl rfl ?_
        refine h_dup (pc' := 65) rfl rfl rfl ?_
        refine h_getI (pc' := 68) (v := s0 63 4) rfl rfl rfl rfl rfl esq52_13 (fun z81 hz81 => ?_)
        have tz81 := tf_63_4 I0
        refine h_iconst (pc' := 69) (x := (Int32.ofInt 1)) rfl rfl rfl ?_
        refine h_iadd (pc' := 70) rfl rfl hz81 ci_1 rfl (by have g0 := h_rgv hz81; omega) (by have g0 := h_rgv hz81; omega) (fun z82 hz82 => ?_)
        clear hz81
        refine h_put (pc' := 73) rfl rfl rfl rfl rfl rfl hz82 rfl (h_fgt (E := fun s => s 64 2 = sq52 64 2 ∧ s 64 4 = sq52 64 4 ∧ s 64 3 = sq52 64 3 ∧ s 64 5 = sq52 64 5 ∧ s 63 2 = sq52 63 2 ∧ s 63 3 = sq52 63 3 ∧ s 64 1 = s0 64 1 ∧ s 66 8 = sq52 66 8 ∧ s 66 9 = sq52 66 9 ∧ s 66 10 = sq52 66 10 ∧ s 69 2 = sq52 69 2 ∧ s 72 2 = sq52 72 2 ∧ s 63 5 = sq52 63 5 ∧ s 63 4 = ((s0 63 4) + 1) ∧ s = h_up sq52 63 4 ((s0 63 4) + 1)) _ (if_63_4 Isq52 (h_rgv hz82)) (Fsq52.up rfl) ⟨rfl, rfl, rfl, rfl, rfl, rfl, esq52_6, rfl, rfl, rfl, rfl, rfl, rfl, rfl, rfl⟩ (fun s83 Is83 Fs83 (es83 : s83 64 2 = sq52 64 2 ∧ s83 64 4 = sq52 64 4 ∧ s83 64 3 = sq52 64 3 ∧ s83 64 5 = sq52 64 5 ∧ s83 63 2 = sq52 63 2 ∧ s83 63 3 = sq52 63 3 ∧ s83 64 1 = s0 64 1 ∧ s83 66 8 = sq52 66 8 ∧ s83 66 9 = sq52 66 9 ∧ s83 66 10 = sq52 66 10 ∧ s83 69 2 = sq52 69 2 ∧ s83 72 2 = sq52 72 2 ∧ s83 63 5 = sq52 63 5 ∧ s83 63 4 = ((s0 63 4) + 1) ∧ s83 = h_up sq52 63 4 ((s0 63 4) + 1)) => ?_))
        refine h_aload_n (pc' := 74) rfl rfl rfl ?_
        refine h_call (sp := false) (pc' := 77) (M := [(0, .ref 63)]) rfl rfl rfl rfl rfl rfl rfl rfl ?_
        refine h_aload_n (pc' := 1) rfl rfl rfl ?_
        refine h_getI (pc' := 4) (v := sq52 63 2) rfl rfl rfl rfl rfl es83.2.2.2.2.1 (fun z84 hz84 => ?_)
        have tz84 := tf_63_2 Isq52
        refine h_zne (tg := 37) (pc' := 7) rfl rfl rfl hz84 (fun c85 => ?_) (fun c85 => absurd c85 (by omega))
        clear hz84
        refine h_vret rfl rfl (h_Kn ?_)
        refine h_iinc (pc' := 80) (M := fun z86 => [(1, .int z86), (0, .ref 63)]) rfl rfl rfl rfl hx1 ci_1 rfl (by omega) (by omega) (fun _ => rfl) (fun z86 hz86 => ?_)
        refine h_goto (pc' := 35) rfl rfl ?_
        refine d_toM (g_inj ns) hlq52 hRq52 (fun lvw87 memw87 hlw87 hRw87 => ?_)
        show h_T g_P (g_Y ns) 154 22 [(0, .ref 98)] [] tq52 _
        refine h_vret rfl rfl (d_retn hlv44 ?_)
        refine h_iinc (pc' := 83) (M := fun z88 => [(1, .int z88), (0, .ref 98)]) rfl rfl rfl rfl hy1 ci_1 rfl (by omega) (by omega) (fun _ => rfl) (fun z88 hz88 => ?_)
        refine h_goto (pc' := 62) rfl rfl ?_
        refine d_toL (g_inj ns) hlw87 hRw87 (fun lvw89 memw89 hlw89 hRw89 => ?_)
        show h_T g_P (g_Y ns) 52 35 [(1, .int z86), (0, .ref 63)] [] s83 _
        exact h_wk [(0, .ref 63), (1, .int z86)] ⟨rfl, rfl, trivial⟩ (ih _ _ Is83 Itq52 Fs83 Ftq52 z86 _ hz86 z88 _ hz88 (by omega) (by omega) (by omega) (by omega) (by omega) (by omega) (by omega) (fun h => absurd h (by omega)) (Or.inl ⟨by omega, by omega, by omega, by omega⟩) (by omega) _ _ (h_al_ok ⟨rfl, rfl, trivial⟩ hlw89) hRw89)
    · show h_T g_P (g_Y ns) 52 35 [(0, .ref 63), (1, .int x1)] [] s0 _
      refine h_iload_n (pc' := 36) rfl rfl rfl ?_
      refine h_sipush (pc' := 39) (x := (Int32.ofInt 160)) rfl rfl cs_160 ?_
      refine h_cge (tg := 83) (pc' := 42) rfl rfl rfl hx1 ci_160 (fun c90 => absurd c90 (by omega)) (fun c90 => ?_)
      refine h_aload_n (pc' := 43) rfl rfl rfl ?_
      refine h_getI (pc' := 46) (v := s0 63 2) rfl rfl rfl rfl rfl rfl (fun z91 hz91 => ?_)
      have tz91 := tf_63_2 I0
      refine h_zne (tg := 83) (pc' := 49) rfl rfl rfl hz91 (fun c92 => absurd c92 (by omega)) (fun c92 => ?_)
      clear hz91
      refine h_aload_n (pc' := 50) rfl rfl rfl ?_
      refine h_getR (pc' := 53) rfl rfl rfl rfl rfl ?_
      refine h_getI (pc' := 56) (v := s0 64 3) rfl rfl rfl rfl rfl rfl (fun z93 hz93 => ?_)
      have tz93 := tf_64_3 I0
      refine h_zeq (tg := 83) (pc' := 59) rfl rfl rfl hz93 (fun c94 => absurd c94 (by omega)) (fun c94 => ?_)
      clear hz93
      refine h_aload_n (pc' := 60) rfl rfl rfl ?_
      refine d_call (g_inj ns) (pc' := 63) (m := 56) (M := [(0, .ref 63)]) (rest := []) ⟨false, _, _, _, _, _, _, rfl, rfl, rfl, rfl, rfl, rfl, rfl⟩ (fun lv95 hlv95 => ?_)
      refine h_aload_n (pc' := 1) rfl rfl rfl ?_
      refine h_getR (pc' := 4) rfl rfl rfl rfl rfl ?_
      refine h_getI (pc' := 7) (v := s0 64 3) rfl rfl rfl rfl rfl rfl (fun z96 hz96 => ?_)
      refine h_iconst (pc' := 8) (x := (Int32.ofInt 1)) rfl rfl rfl ?_
      refine h_cne (tg := 21) (pc' := 11) rfl rfl rfl hz96 ci_1 (fun c97 => ?_) (fun c97 => absurd c97 (by omega))
      clear hz96
      refine h_bipush (pc' := 23) (x := (Int32.ofInt (-4))) rfl rfl cb_m4 ?_
      refine h_istore_n (pc' := 24) (M := [(1, .int (Int32.ofInt (-4))), (0, .ref 63)]) rfl rfl rfl rfl ?_
      refine d_toM (g_inj ns) hl2 hR2 (fun lvw98 memw98 hlw98 hRw98 => ?_)
      show h_T g_P (g_Y ns) 155 62 [(0, .ref 98), (1, .int y1)] [] t0 _
      refine h_aload_n (pc' := 63) rfl rfl rfl ?_
      refine h_getI (pc' := 66) (v := t0 98 13) rfl rfl rfl rfl rfl rfl (fun z99 hz99 => ?_)
      have tz99 := tf_98_13 J0
      refine h_zne (tg := 86) (pc' := 69) rfl rfl rfl hz99 (fun c100 => absurd c100 (by omega)) (fun c100 => ?_)
      clear hz99
      refine h_aload_n (pc' := 70) rfl rfl rfl ?_
      refine h_getI (pc' := 73) (v := t0 98 17) rfl rfl rfl rfl rfl rfl (fun z101 hz101 => ?_)
      have tz101 := tf_98_17 J0
      refine h_zeq (tg := 86) (pc' := 76) rfl rfl rfl hz101 (fun c102 => absurd c102 (by omega)) (fun c102 => ?_)
      clear hz101
      refine h_aload_n (pc' := 77) rfl rfl rfl ?_
      refine d_call (g_inj ns) (pc' := 80) (m := 154) (M := [(0, .ref 98)]) (rest := []) ⟨false, _, _, _, _, _, _, rfl, rfl, rfl, rfl, rfl, rfl, rfl⟩ (fun lv103 hlv103 => ?_)
      refine h_aload_n (pc' := 1) rfl rfl rfl ?_
      refine h_call (sp := false) (pc' := 4) (M := [(0, .ref 98)]) rfl rfl rfl rfl rfl rfl rfl rfl ?_
      refine n_nameHere _ J0  (by omega) (by omega) (fun r104 br104 hr104 tr104 ps105_0 ps105_1 => h_Kv ?_)
      have gw106 : br104 = -4 := by omega
      refine h_istore_n (pc' := 5) (M := [(1, .int r104), (0, .ref 98)]) rfl rfl rfl rfl ?_
      refine d_toL (g_inj ns) hlw98 hRw98 (fun lvw107 memw107 hlw107 hRw107 => ?_)
      show h_T g_P (g_Y ns) 56 24 [(1, .int (Int32.ofInt (-4))), (0, .ref 63)] [] s0 _
      refine h_wk [(0, .ref 63), (1, .int (Int32.ofInt (-4)))] ⟨rfl, rfl, trivial⟩ (ls_ln I0 J0 (hTL.fr (F0_.mono rfl) (H0_.mono rfl)) (Int32.ofInt (-4)) _ ci_m4 r104 _ hr104 (by omega) (by omega) (by omega) ((ex7 (by omega)).1.1) ((ex7 (by omega)).1.2.1) ((ex7 (by omega)).1.2.2.1) ((ex7 (by omega)).1.2.2.2.1) ((ex7 (by omega)).1.2.2.2.2.1) ((ex7 (by omega)).1.2.2.2.2.2.1) (by omega) (ex7 (by omega)) (by omega) (by omega) ⟨by omega, by omega⟩ (fun sq108 tq108 Isq108 Itq108 Gsq108 Gtq108   yq108_0 yq108_1 yq108_2 yq108_3 yq108_4 yq108_5 pcq108 lvq108 memq108 hlq108 hRq108 => ?_) (fun sq109 tq109 Isq109 Itq109 Gsq109 Gtq109   yq109_0 yq109_1 yq109_2 yq109_3 yq109_4 pcq109 lvq109 memq109 hlq109 hRq109 => ?_) (fun sq110 tq110 Isq110 Itq110 Gsq110 Gtq110   yq110_0 yq110_1 yq110_2 yq110_3 yq110_4 pcq110 lvq110 memq110 hlq110 hRq110 => ?_) _ _ (h_al_ok ⟨rfl, rfl, trivial⟩ hlw107) hRw107)
      · have Fsq108 := (Gsq108.mono (B := k_px) rfl).tr F0_
        have Ftq108 := (Gtq108.mono (B := k_pm) rfl).tr H0_
        have Isq108 := Isq108
        have Itq108 := Itq108
        have Gsq108 := Gsq108
        have Gtq108 := Gtq108
        have esq108_6 : sq108 64 1 = s0 64 1 := (Gsq108 64 1 rfl).trans rfl
        have esq108_13 : sq108 63 4 = s0 63 4 := (Gsq108 63 4 rfl).trans rfl
        rcases pcq108 with pcq108 | pcq108
        · show h_T g_P (g_Y ns) 56 180 [(0, .ref 63)] [] sq108 _
          clear hr104
          refine h_vret rfl rfl (d_retn hlv95 ?_)
          refine h_aload_n (pc' := 64) rfl rfl rfl ?_
          refine h_dup (pc' := 65) rfl rfl rfl ?_
          refine h_getI (pc' := 68) (v := s0 63 4) rfl rfl rfl rfl rfl esq108_13 (fun z111 hz111 => ?_)
          have tz111 := tf_63_4 I0
          refine h_iconst (pc' := 69) (x := (Int32.ofInt 1)) rfl rfl rfl ?_
          refine h_iadd (pc' := 70) rfl rfl hz111 ci_1 rfl (by have g0 := h_rgv hz111; omega) (by have g0 := h_rgv hz111; omega) (fun z112 hz112 => ?_)
          clear hz111
          refine h_put (pc' := 73) rfl rfl rfl rfl rfl rfl hz112 rfl (h_fgt (E := fun s => s 64 2 = sq108 64 2 ∧ s 64 4 = sq108 64 4 ∧ s 64 3 = sq108 64 3 ∧ s 64 5 = sq108 64 5 ∧ s 63 2 = sq108 63 2 ∧ s 63 3 = sq108 63 3 ∧ s 64 1 = s0 64 1 ∧ s 66 8 = sq108 66 8 ∧ s 66 9 = sq108 66 9 ∧ s 66 10 = sq108 66 10 ∧ s 69 2 = sq108 69 2 ∧ s 72 2 = sq108 72 2 ∧ s 63 5 = sq108 63 5 ∧ s 63 4 = ((s0 63 4) + 1) ∧ s = h_up sq108 63 4 ((s0 63 4) + 1)) _ (if_63_4 Isq108 (h_rgv hz112)) (Fsq108.up rfl) ⟨rfl, rfl, rfl, rfl, rfl, rfl, esq108_6, rfl, rfl, rfl, rfl, rfl, rfl, rfl, rfl⟩ (fun s113 Is113 Fs113 (es113 : s113 64 2 = sq108 64 2 ∧ s113 64 4 = sq108 64 4 ∧ s113 64 3 = sq108 64 3 ∧ s113 64 5 = sq108 64 5 ∧ s113 63 2 = sq108 63 2 ∧ s113 63 3 = sq108 63 3 ∧ s113 64 1 = s0 64 1 ∧ s113 66 8 = sq108 66 8 ∧ s113 66 9 = sq108 66 9 ∧ s113 66 10 = sq108 66 10 ∧ s113 69 2 = sq108 69 2 ∧ s113 72 2 = sq108 72 2 ∧ s113 63 5 = sq108 63 5 ∧ s113 63 4 = ((s0 63 4) + 1) ∧ s113 = h_up sq108 63 4 ((s0 63 4) + 1)) => ?_))
          refine h_aload_n (pc' := 74) rfl rfl rfl ?_
          refine h_call (sp := false) (pc' := 77) (M := [(0, .ref 63)]) rfl rfl rfl rfl rfl rfl rfl rfl ?_
          refine h_aload_n (pc' := 1) rfl rfl rfl ?_
          refine h_getI (pc' := 4) (v := sq108 63 2) rfl rfl rfl rfl rfl es113.2.2.2.2.1 (fun z114 hz114 => ?_)
          have tz114 := tf_63_2 Isq108
          refine h_zne (tg := 37) (pc' := 7) rfl rfl rfl hz114 (fun c115 => ?_) (fun c115 => absurd c115 (by omega))
          clear hz114
          refine h_vret rfl rfl (h_Kn ?_)
          refine h_iinc (pc' := 80) (M := fun z116 => [(1, .int z116), (0, .ref 63)]) rfl rfl rfl rfl hx1 ci_1 rfl (by omega) (by omega) (fun _ => rfl) (fun z116 hz116 => ?_)
          refine h_goto (pc' := 35) rfl rfl ?_
          refine d_toM (g_inj ns) hlq108 hRq108 (fun lvw117 memw117 hlw117 hRw117 => ?_)
          show h_T g_P (g_Y ns) 154 165 [(0, .ref 98)] [] tq108 _
          refine h_aload_n (pc' := 166) rfl rfl rfl ?_
          refine h_call (sp := false) (pc' := 169) (M := [(0, .ref 98)]) rfl rfl rfl rfl rfl rfl rfl rfl ?_
          refine h_aload_n (pc' := 1) rfl rfl rfl ?_
          refine h_getI (pc' := 4) (v := tq108 98 13) rfl rfl rfl rfl rfl rfl (fun z118 hz118 => ?_)
          have tz118 := tf_98_13 Itq108
          refine h_zle (tg := 8) (pc' := 7) rfl rfl rfl hz118 (fun c119 => absurd c119 (by omega)) (fun c119 => ?_)
          clear hz118
          refine h_vret rfl rfl (h_Kn ?_)
          refine h_vret rfl rfl (d_retn hlv103 ?_)
          refine h_iinc (pc' := 83) (M := fun z120 => [(1, .int z120), (0, .ref 98)]) rfl rfl rfl rfl hy1 ci_1 rfl (by omega) (by omega) (fun _ => rfl) (fun z120 hz120 => ?_)
          refine h_goto (pc' := 62) rfl rfl ?_
          refine d_toL (g_inj ns) hlw117 hRw117 (fun lvw121 memw121 hlw121 hRw121 => ?_)
          show h_T g_P (g_Y ns) 52 35 [(1, .int z116), (0, .ref 63)] [] s113 _
          exact h_wk [(0, .ref 63), (1, .int z116)] ⟨rfl, rfl, trivial⟩ (ih _ _ Is113 Itq108 Fs113 Ftq108 z116 _ hz116 z120 _ hz120 (by omega) (by omega) (by omega) (by omega) (by omega) (by omega) (by omega) (fun h => absurd h (by omega)) (Or.inl ⟨by omega, by omega, by omega, by omega⟩) (by omega) _ _ (h_al_ok ⟨rfl, rfl, trivial⟩ hlw121) hRw121)
        · show h_T g_P (g_Y ns) 56 180 [(0, .ref 63)] [] sq108 _
          clear hr104
          refine h_vret rfl rfl (d_retn hlv95 ?_)
          refine h_aload_n (pc' := 64) rfl rfl rfl ?_
          refine h_dup (pc' := 65) rfl rfl rfl ?_
          refine h_getI (pc' := 68) (v := s0 63 4) rfl rfl rfl rfl rfl esq108_13 (fun z122 hz122 => ?_)
          have tz122 := tf_63_4 I0
          refine h_iconst (pc' := 69) (x := (Int32.ofInt 1)) rfl rfl rfl ?_
          refine h_iadd (pc' := 70) rfl rfl hz122 ci_1 rfl (by have g0 := h_rgv hz122; omega) (by have g0 := h_rgv hz122; omega) (fun z123 hz123 => ?_)
          clear hz122
          refine h_put (pc' := 73) rfl rfl rfl rfl rfl rfl hz123 rfl (h_fgt (E := fun s => s 64 2 = sq108 64 2 ∧ s 64 4 = sq108 64 4 ∧ s 64 3 = sq108 64 3 ∧ s 64 5 = sq108 64 5 ∧ s 63 2 = sq108 63 2 ∧ s 63 3 = sq108 63 3 ∧ s 64 1 = s0 64 1 ∧ s 66 8 = sq108 66 8 ∧ s 66 9 = sq108 66 9 ∧ s 66 10 = sq108 66 10 ∧ s 69 2 = sq108 69 2 ∧ s 72 2 = sq108 72 2 ∧ s 63 5 = sq108 63 5 ∧ s 63 4 = ((s0 63 4) + 1) ∧ s = h_up sq108 63 4 ((s0 63 4) + 1)) _ (if_63_4 Isq108 (h_rgv hz123)) (Fsq108.up rfl) ⟨rfl, rfl, rfl, rfl, rfl, rfl, esq108_6, rfl, rfl, rfl, rfl, rfl, rfl, rfl, rfl⟩ (fun s124 Is124 Fs124 (es124 : s124 64 2 = sq108 64 2 ∧ s124 64 4 = sq108 64 4 ∧ s124 64 3 = sq108 64 3 ∧ s124 64 5 = sq108 64 5 ∧ s124 63 2 = sq108 63 2 ∧ s124 63 3 = sq108 63 3 ∧ s124 64 1 = s0 64 1 ∧ s124 66 8 = sq108 66 8 ∧ s124 66 9 = sq108 66 9 ∧ s124 66 10 = sq108 66 10 ∧ s124 69 2 = sq108 69 2 ∧ s124 72 2 = sq108 72 2 ∧ s124 63 5 = sq108 63 5 ∧ s124 63 4 = ((s0 63 4) + 1) ∧ s124 = h_up sq108 63 4 ((s0 63 4) + 1)) => ?_))
          refine h_aload_n (pc' := 74) rfl rfl rfl ?_
          refine d_toM (g_inj ns) hlq108 hRq108 (fun lvw125 memw125 hlw125 hRw125 => ?_)
          show h_T g_P (g_Y ns) 154 165 [(0, .ref 98)] [] tq108 _
          refine h_aload_n (pc' := 166) rfl rfl rfl ?_
          refine d_pcall (g_inj ns) (m1 := 54) (pc1' := 77) (M1 := [(0, .ref 63)]) (rest1 := []) (m2 := 148) (pc2' := 169) (M2 := [(0, .ref 98)]) (rest2 := []) ⟨false, _, _, _, _, _, _, rfl, rfl, rfl, rfl, rfl, rfl, rfl⟩ ⟨false, _, _, _, _, _, _, rfl, rfl, rfl, rfl, rfl, rfl, rfl⟩ hRw125 ?_
          refine pp_step Is124 Itq108 (hTL.fr (Fs124.mono rfl) (Ftq108.mono rfl)) (by omega) (by omega) (by omega) (by omega) (Or.inr ⟨by omega, by omega⟩) (fun sq126 tq126 Isq126 Itq126 Gsq126 Gtq126 yq126_0 yq126_1 yq126_2 yq126_3 yq126_4 pcq126 memq126 hRq126 => ?_)
          have Fsq126 := (Gsq126.mono (B := k_px) rfl).tr Fs124
          have Ftq126 := (Gtq126.mono (B := k_pm) rfl).tr Ftq108
          have esq126_6 : sq126 64 1 = s0 64 1 := (Gsq126 64 1 rfl).trans es124.2.2.2.2.2.2.1
          have esq126_7 : sq126 66 8 = sq108 66 8 := (Gsq126 66 8 rfl).trans es124.2.2.2.2.2.2.2.1
          have esq126_8 : sq126 66 9 = sq108 66 9 := (Gsq126 66 9 rfl).trans es124.2.2.2.2.2.2.2.2.1
          have esq126_9 : sq126 66 10 = sq108 66 10 := (Gsq126 66 10 rfl).trans es124.2.2.2.2.2.2.2.2.2.1
          have esq126_10 : sq126 69 2 = sq108 69 2 := (Gsq126 69 2 rfl).trans es124.2.2.2.2.2.2.2.2.2.2.1
          have esq126_11 : sq126 72 2 = sq108 72 2 := (Gsq126 72 2 rfl).trans es124.2.2.2.2.2.2.2.2.2.2.2.1
          have esq126_12 : sq126 63 5 = sq108 63 5 := (Gsq126 63 5 rfl).trans es124.2.2.2.2.2.2.2.2.2.2.2.2.1
          have esq126_13 : sq126 63 4 = ((s0 63 4) + 1) := (Gsq126 63 4 rfl).trans es124.2.2.2.2.2.2.2.2.2.2.2.2.2.1
          have etq126_6 : tq126 98 5 = tq108 98 5 := (Gtq126 98 5 rfl).trans rfl
          have etq126_7 : tq126 98 6 = tq108 98 6 := (Gtq126 98 6 rfl).trans rfl
          have etq126_8 : tq126 98 7 = tq108 98 7 := (Gtq126 98 7 rfl).trans rfl
          have etq126_9 : tq126 98 8 = tq108 98 8 := (Gtq126 98 8 rfl).trans rfl
          have etq126_10 : tq126 98 9 = tq108 98 9 := (Gtq126 98 9 rfl).trans rfl
          have etq126_11 : tq126 101 18 = tq108 101 18 := (Gtq126 101 18 rfl).trans rfl
          have etq126_12 : tq126 101 25 = tq108 101 25 := (Gtq126 101 25 rfl).trans rfl
          have etq126_13 : tq126 101 43 = tq108 101 43 := (Gtq126 101 43 rfl).trans rfl
          show h_T g_P (g_Y ns) 154 169 [(0, .ref 98)] [] tq126 _
          refine h_vret rfl rfl (d_retn hlv103 ?_)
          refine h_iinc (pc' := 83) (M := fun z127 => [(1, .int z127), (0, .ref 98)]) rfl rfl rfl rfl hy1 ci_1 rfl (by omega) (by omega) (fun _ => rfl) (fun z127 hz127 => ?_)
          refine h_goto (pc' := 62) rfl rfl ?_
          refine d_toL (g_inj ns) hlw125 hRq126 (fun lvw128 memw128 hlw128 hRw128 => ?_)
          show h_T g_P (g_Y ns) 52 77 [(0, .ref 63), (1, .int x1)] [] sq126 _
          refine h_iinc (pc' := 80) (M := fun z129 => [(1, .int z129), (0, .ref 63)]) rfl rfl rfl rfl hx1 ci_1 rfl (by omega) (by omega) (fun _ => rfl) (fun z129 hz129 => ?_)
          refine h_goto (pc' := 35) rfl rfl ?_
          exact h_wk [(0, .ref 63), (1, .int z129)] ⟨rfl, rfl, trivial⟩ (ih _ _ Isq126 Itq126 Fsq126 Ftq126 z129 _ hz129 z127 _ hz127 (by omega) (by omega) (by omega) (by omega) (by omega) (by omega) (by omega) (fun _ => d_mk ((Gsq126 66 8 rfl).trans (h_upo es124.2.2.2.2.2.2.2.2.2.2.2.2.2.2 rfl 8)) ((Gsq126 66 9 rfl).trans (h_upo es124.2.2.2.2.2.2.2.2.2.2.2.2.2.2 rfl 9)) ((Gsq126 66 10 rfl).trans (h_upo es124.2.2.2.2.2.2.2.2.2.2.2.2.2.2 rfl 10)) ((Gsq126 69 2 rfl).trans (h_upo es124.2.2.2.2.2.2.2.2.2.2.2.2.2.2 rfl 2)) ((Gsq126 72 2 rfl).trans (h_upo es124.2.2.2.2.2.2.2.2.2.2.2.2.2.2 rfl 2)) ((Gsq126 63 5 rfl).trans (h_upd es124.2.2.2.2.2.2.2.2.2.2.2.2.2.2 (by decide))) (fun j => (Gsq126 67 j rfl).trans (h_upo es124.2.2.2.2.2.2.2.2.2.2.2.2.2.2 rfl j)) (fun j => (Gsq126 68 j rfl).trans (h_upo es124.2.2.2.2.2.2.2.2.2.2.2.2.2.2 rfl j)) (fun j => (Gsq126 70 j rfl).trans (h_upo es124.2.2.2.2.2.2.2.2.2.2.2.2.2.2 rfl j)) (fun j => (Gsq126 71 j rfl).trans (h_upo es124.2.2.2.2.2.2.2.2.2.2.2.2.2.2 rfl j)) (fun j => (Gsq126 73 j rfl).trans (h_upo es124.2.2.2.2.2.2.2.2.2.2.2.2.2.2 rfl j)) (fun j => (Gsq126 74 j rfl).trans (h_upo es124.2.2.2.2.2.2.2.2.2.2.2.2.2.2 rfl j)) (fun j => (Gsq126 75 j rfl).trans (h_upo es124.2.2.2.2.2.2.2.2.2.2.2.2.2.2 rfl j)) (fun j => (Gsq126 76 j rfl).trans (h_upo es124.2.2.2.2.2.2.2.2.2.2.2.2.2.2 rfl j)) (fun j => (Gsq126 77 j rfl).trans (h_upo es124.2.2.2.2.2.2.2.2.2.2.2.2.2.2 rfl j)) (fun j => (Gsq126 78 j rfl).trans (h_upo es124.2.2.2.2.2.2.2.2.2.2.2.2.2.2 rfl j)) ((Gtq126 98 5 rfl)) ((Gtq126 98 6 rfl)) ((Gtq126 98 7 rfl)) ((Gtq126 98 8 rfl)) ((Gtq126 98 9 rfl)) (fun j => (Gtq126 101 j rfl)) (yq108_5 (by omega))) (pcq126.elim (fun pcq126 => (Or.inl ⟨by omega, by omega, by omega, by omega⟩)) (fun pcq126 => (pcq126.elim (fun pcq126 => (Or.inr (Or.inl ⟨by omega, by omega, by omega, by omega, by omega⟩))) (fun pcq126 => (pcq126.elim (fun pcq126 => (Or.inr (Or.inr (Or.inl ⟨by omega, by omega, by omega, by omega, by omega, by omega⟩)))) (fun pcq126 => (pcq126.elim (fun pcq126 => (Or.inr (Or.inr (Or.inr (Or.inl ⟨by omega, by omega, by omega, by omega, by omega, by omega, by omega, by omega, by omega⟩))))) (fun pcq126 => (Or.inr (Or.inr (Or.inr (Or.inr ⟨by omega, by omega, by omega, by omega, by omega, by omega⟩)))))))))))) (by omega) _ _ (h_al_ok ⟨rfl, rfl, trivial⟩ hlw128) hRw128)
      · have Fsq109 := (Gsq109.mono (B := k_px) rfl).tr F0_
        have Ftq109 := (Gtq109.mono (B := k_pm) rfl).tr H0_
        have Isq109 := Isq109
        have Itq109 := Itq109
        have Gsq109 := Gsq109
        have Gtq109 := Gtq109
        have esq109_6 : sq109 64 1 = s0 64 1 := (Gsq109 64 1 rfl).trans rfl
        have esq109_13 : sq109 63 4 = s0 63 4 := (Gsq109 63 4 rfl).trans rfl
        show h_T g_P (g_Y ns) 56 180 [(0, .ref 63)] [] sq109 _
        clear hr104
        refine h_vret rfl rfl (d_retn hlv95 ?_)
        refine h_aload_n (pc' := 64) rfl rfl rfl ?_
        refine h_dup (pc' := 65) rfl rfl rfl ?_
        refine h_getI (pc' := 68) (v := s0 63 4) rfl rfl rfl rfl rfl esq109_13 (fun z130 hz130 => ?_)
        have tz130 := tf_63_4 I0
        refine h_iconst (pc' := 69) (x := (Int32.ofInt 1)) rfl rfl rfl ?_
        refine h_iadd (pc' := 70) rfl rfl hz130 ci_1 rfl (by have g0 := h_rgv hz130; omega) (by have g0 := h_rgv hz130; omega) (fun z131 hz131 => ?_)
        clear hz130
        refine h_put (pc' := 73) rfl rfl rfl rfl rfl rfl hz131 rfl (h_fgt (E := fun s => s 64 2 = sq109 64 2 ∧ s 64 4 = sq109 64 4 ∧ s 64 3 = sq109 64 3 ∧ s 64 5 = sq109 64 5 ∧ s 63 2 = sq109 63 2 ∧ s 63 3 = sq109 63 3 ∧ s 64 1 = s0 64 1 ∧ s 66 8 = sq109 66 8 ∧ s 66 9 = sq109 66 9 ∧ s 66 10 = sq109 66 10 ∧ s 69 2 = sq109 69 2 ∧ s 72 2 = sq109 72 2 ∧ s 63 5 = sq109 63 5 ∧ s 63 4 = ((s0 63 4) + 1) ∧ s = h_up sq109 63 4 ((s0 63 4) + 1)) _ (if_63_4 Isq109 (h_rgv hz131)) (Fsq109.up rfl) ⟨rfl, rfl, rfl, rfl, rfl, rfl, esq109_6, rfl, rfl, rfl, rfl, rfl, rfl, rfl, rfl⟩ (fun s132 Is132 Fs132 (es132 : s132 64 2 = sq109 64 2 ∧ s132 64 4 = sq109 64 4 ∧ s132 64 3 = sq109 64 3 ∧ s132 64 5 = sq109 64 5 ∧ s132 63 2 = sq109 63 2 ∧ s132 63 3 = sq109 63 3 ∧ s132 64 1 = s0 64 1 ∧ s132 66 8 = sq109 66 8 ∧ s132 66 9 = sq109 66 9 ∧ s132 66 10 = sq109 66 10 ∧ s132 69 2 = sq109 69 2 ∧ s132 72 2 = sq109 72 2 ∧ s132 63 5 = sq109 63 5 ∧ s132 63 4 = ((s0 63 4) + 1) ∧ s132 = h_up sq109 63 4 ((s0 63 4) + 1)) => ?_))
        refine h_aload_n (pc' := 74) rfl rfl rfl ?_
        refine h_call (sp := false) (pc' := 77) (M := [(0, .ref 63)]) rfl rfl rfl rfl rfl rfl rfl rfl ?_
        refine h_aload_n (pc' := 1) rfl rfl rfl ?_
        refine h_getI (pc' := 4) (v := sq109 63 2) rfl rfl rfl rfl rfl es132.2.2.2.2.1 (fun z133 hz133 => ?_)
        have tz133 := tf_63_2 Isq109
        refine h_zne (tg := 37) (pc' := 7) rfl rfl rfl hz133 (fun c134 => ?_) (fun c134 => absurd c134 (by omega))
        clear hz133
        refine h_vret rfl rfl (h_Kn ?_)
        refine h_iinc (pc' := 80) (M := fun z135 => [(1, .int z135), (0, .ref 63)]) rfl rfl rfl rfl hx1 ci_1 rfl (by omega) (by omega) (fun _ => rfl) (fun z135 hz135 => ?_)
        refine h_goto (pc' := 35) rfl rfl ?_
        refine d_toM (g_inj ns) hlq109 hRq109 (fun lvw136 memw136 hlw136 hRw136 => ?_)
        show h_T g_P (g_Y ns) 154 139 [(0, .ref 98)] [] tq109 _
        refine h_vret rfl rfl (d_retn hlv103 ?_)
        refine h_iinc (pc' := 83) (M := fun z137 => [(1, .int z137), (0, .ref 98)]) rfl rfl rfl rfl hy1 ci_1 rfl (by omega) (by omega) (fun _ => rfl) (fun z137 hz137 => ?_)
        refine h_goto (pc' := 62) rfl rfl ?_
        refine d_toL (g_inj ns) hlw136 hRw136 (fun lvw138 memw138 hlw138 hRw138 => ?_)
        show h_T g_P (g_Y ns) 52 35 [(1, .int z135), (0, .ref 63)] [] s132 _
        exact h_wk [(0, .ref 63), (1, .int z135)] ⟨rfl, rfl, trivial⟩ (ih _ _ Is132 Itq109 Fs132 Ftq109 z135 _ hz135 z137 _ hz137 (by omega) (by omega) (by omega) (by omega) (by omega) (by omega) (by omega) (fun h => absurd h (by omega)) (Or.inl ⟨by omega, by omega, by omega, by omega⟩) (by omega) _ _ (h_al_ok ⟨rfl, rfl, trivial⟩ hlw138) hRw138)
      · have Fsq110 := (Gsq110.mono (B := k_px) rfl).tr F0_
        have Ftq110 := (Gtq110.mono (B := k_pm) rfl).tr H0_
        have Isq110 := Isq110
        have Itq110 := Itq110
        have Gsq110 := Gsq110
        have Gtq110 := Gtq110
        have esq110_6 : sq110 64 1 = s0 64 1 := (Gsq110 64 1 rfl).trans rfl
        have esq110_13 : sq110 63 4 = s0 63 4 := (Gsq110 63 4 rfl).trans rfl
        show h_T g_P (g_Y ns) 56 180 [(0, .ref 63)] [] sq110 _
        clear hr104
        refine h_vret rfl rfl (d_retn hlv95 ?_)
        refine h_aload_n (pc' := 64) rfl rfl rfl ?_
        refine h_dup (pc' := 65) rfl rfl rfl ?_
        refine h_getI (pc' := 68) (v := s0 63 4) rfl rfl rfl rfl rfl esq110_13 (fun z139 hz139 => ?_)
        have tz139 := tf_63_4 I0
        refine h_iconst (pc' := 69) (x := (Int32.ofInt 1)) rfl rfl rfl ?_
        refine h_iadd (pc' := 70) rfl rfl hz139 ci_1 rfl (by have g0 := h_rgv hz139; omega) (by have g0 := h_rgv hz139; omega) (fun z140 hz140 => ?_)
        clear hz139
        refine h_put (pc' := 73) rfl rfl rfl rfl rfl rfl hz140 rfl (h_fgt (E := fun s => s 64 2 = sq110 64 2 ∧ s 64 4 = sq110 64 4 ∧ s 64 3 = sq110 64 3 ∧ s 64 5 = sq110 64 5 ∧ s 63 2 = sq110 63 2 ∧ s 63 3 = sq110 63 3 ∧ s 64 1 = s0 64 1 ∧ s 66 8 = sq110 66 8 ∧ s 66 9 = sq110 66 9 ∧ s 66 10 = sq110 66 10 ∧ s 69 2 = sq110 69 2 ∧ s 72 2 = sq110 72 2 ∧ s 63 5 = sq110 63 5 ∧ s 63 4 = ((s0 63 4) + 1) ∧ s = h_up sq110 63 4 ((s0 63 4) + 1)) _ (if_63_4 Isq110 (h_rgv hz140)) (Fsq110.up rfl) ⟨rfl, rfl, rfl, rfl, rfl, rfl, esq110_6, rfl, rfl, rfl, rfl, rfl, rfl, rfl, rfl⟩ (fun s141 Is141 Fs141 (es141 : s141 64 2 = sq110 64 2 ∧ s141 64 4 = sq110 64 4 ∧ s141 64 3 = sq110 64 3 ∧ s141 64 5 = sq110 64 5 ∧ s141 63 2 = sq110 63 2 ∧ s141 63 3 = sq110 63 3 ∧ s141 64 1 = s0 64 1 ∧ s141 66 8 = sq110 66 8 ∧ s141 66 9 = sq110 66 9 ∧ s141 66 10 = sq110 66 10 ∧ s141 69 2 = sq110 69 2 ∧ s141 72 2 = sq110 72 2 ∧ s141 63 5 = sq110 63 5 ∧ s141 63 4 = ((s0 63 4) + 1) ∧ s141 = h_up sq110 63 4 ((s0 63 4) + 1)) => ?_))
        refine h_aload_n (pc' := 74) rfl rfl rfl ?_
        refine h_call (sp := false) (pc' := 77) (M := [(0, .ref 63)]) rfl rfl rfl rfl rfl rfl rfl rfl ?_
        refine h_aload_n (pc' := 1) rfl rfl rfl ?_
        refine h_getI (pc' := 4) (v := sq110 63 2) rfl rfl rfl rfl rfl es141.2.2.2.2.1 (fun z142 hz142 => ?_)
        have tz142 := tf_63_2 Isq110
        refine h_zne (tg := 37) (pc' := 7) rfl rfl rfl hz142 (fun c143 => ?_) (fun c143 => absurd c143 (by omega))
        clear hz142
        refine h_vret rfl rfl (h_Kn ?_)
        refine h_iinc (pc' := 80) (M := fun z144 => [(1, .int z144), (0, .ref 63)]) rfl rfl rfl rfl hx1 ci_1 rfl (by omega) (by omega) (fun _ => rfl) (fun z144 hz144 => ?_)
        refine h_goto (pc' := 35) rfl rfl ?_
        refine d_toM (g_inj ns) hlq110 hRq110 (fun lvw145 memw145 hlw145 hRw145 => ?_)
        show h_T g_P (g_Y ns) 154 22 [(0, .ref 98)] [] tq110 _
        refine h_vret rfl rfl (d_retn hlv103 ?_)
        refine h_iinc (pc' := 83) (M := fun z146 => [(1, .int z146), (0, .ref 98)]) rfl rfl rfl rfl hy1 ci_1 rfl (by omega) (by omega) (fun _ => rfl) (fun z146 hz146 => ?_)
        refine h_goto (pc' := 62) rfl rfl ?_
        refine d_toL (g_inj ns) hlw145 hRw145 (fun lvw147 memw147 hlw147 hRw147 => ?_)
        show h_T g_P (g_Y ns) 52 35 [(1, .int z144), (0, .ref 63)] [] s141 _
        exact h_wk [(0, .ref 63), (1, .int z144)] ⟨rfl, rfl, trivial⟩ (ih _ _ Is141 Itq110 Fs141 Ftq110 z144 _ hz144 z146 _ hz146 (by omega) (by omega) (by omega) (by omega) (by omega) (by omega) (by omega) (fun h => absurd h (by omega)) (Or.inl ⟨by omega, by omega, by omega, by omega⟩) (by omega) _ _ (h_al_ok ⟨rfl, rfl, trivial⟩ hlw147) hRw147)
    · show h_T g_P (g_Y ns) 52 35 [(0, .ref 63), (1, .int x1)] [] s0 _
      refine h_iload_n (pc' := 36) rfl rfl rfl ?_
      refine h_sipush (pc' := 39) (x := (Int32.ofInt 160)) rfl rfl cs_160 ?_
      refine h_cge (tg := 83) (pc' := 42) rfl rfl rfl hx1 ci_160 (fun c148 => absurd c148 (by omega)) (fun c148 => ?_)
      refine h_aload_n (pc' := 43) rfl rfl rfl ?_
      refine h_getI (pc' := 46) (v := s0 63 2) rfl rfl rfl rfl rfl rfl (fun z149 hz149 => ?_)
      have tz149 := tf_63_2 I0
      refine h_zne (tg := 83) (pc' := 49) rfl rfl rfl hz149 (fun c150 => absurd c150 (by omega)) (fun c150 => ?_)
      clear hz149
      refine h_aload_n (pc' := 50) rfl rfl rfl ?_
      refine h_getR (pc' := 53) rfl rfl rfl rfl rfl ?_
      refine h_getI (pc' := 56) (v := s0 64 3) rfl rfl rfl rfl rfl rfl (fun z151 hz151 => ?_)
      have tz151 := tf_64_3 I0
      refine h_zeq (tg := 83) (pc' := 59) rfl rfl rfl hz151 (fun c152 => absurd c152 (by omega)) (fun c152 => ?_)
      clear hz151
      refine h_aload_n (pc' := 60) rfl rfl rfl ?_
      refine d_call (g_inj ns) (pc' := 63) (m := 56) (M := [(0, .ref 63)]) (rest := []) ⟨false, _, _, _, _, _, _, rfl, rfl, rfl, rfl, rfl, rfl, rfl⟩ (fun lv153 hlv153 => ?_)
      refine h_aload_n (pc' := 1) rfl rfl rfl ?_
      refine h_getR (pc' := 4) rfl rfl rfl rfl rfl ?_
      refine h_getI (pc' := 7) (v := s0 64 3) rfl rfl rfl rfl rfl rfl (fun z154 hz154 => ?_)
      refine h_iconst (pc' := 8) (x := (Int32.ofInt 1)) rfl rfl rfl ?_
      refine h_cne (tg := 21) (pc' := 11) rfl rfl rfl hz154 ci_1 (fun c155 => ?_) (fun c155 => absurd c155 (by omega))
      clear hz154
      refine h_bipush (pc' := 23) (x := (Int32.ofInt (-4))) rfl rfl cb_m4 ?_
      refine h_istore_n (pc' := 24) (M := [(1, .int (Int32.ofInt (-4))), (0, .ref 63)]) rfl rfl rfl rfl ?_
      refine d_toM (g_inj ns) hl2 hR2 (fun lvw156 memw156 hlw156 hRw156 => ?_)
      show h_T g_P (g_Y ns) 155 62 [(0, .ref 98), (1, .int y1)] [] t0 _
      refine h_aload_n (pc' := 63) rfl rfl rfl ?_
      refine h_getI (pc' := 66) (v := t0 98 13) rfl rfl rfl rfl rfl rfl (fun z157 hz157 => ?_)
      have tz157 := tf_98_13 J0
      refine h_zne (tg := 86) (pc' := 69) rfl rfl rfl hz157 (fun c158 => absurd c158 (by omega)) (fun c158 => ?_)
      clear hz157
      refine h_aload_n (pc' := 70) rfl rfl rfl ?_
      refine h_getI (pc' := 73) (v := t0 98 17) rfl rfl rfl rfl rfl rfl (fun z159 hz159 => ?_)
      have tz159 := tf_98_17 J0
      refine h_zeq (tg := 86) (pc' := 76) rfl rfl rfl hz159 (fun c160 => absurd c160 (by omega)) (fun c160 => ?_)
      clear hz159
      refine h_aload_n (pc' := 77) rfl rfl rfl ?_
      refine d_call (g_inj ns) (pc' := 80) (m := 154) (M := [(0, .ref 98)]) (rest := []) ⟨false, _, _, _, _, _, _, rfl, rfl, rfl, rfl, rfl, rfl, rfl⟩ (fun lv161 hlv161 => ?_)
      refine h_aload_n (pc' := 1) rfl rfl rfl ?_
      refine h_call (sp := false) (pc' := 4) (M := [(0, .ref 98)]) rfl rfl rfl rfl rfl rfl rfl rfl ?_
      refine n_nameHere _ J0  (by omega) (by omega) (fun r162 br162 hr162 tr162 ps163_0 ps163_1 => h_Kv ?_)
      have gw164 : br162 = -4 := by omega
      refine h_istore_n (pc' := 5) (M := [(1, .int r162), (0, .ref 98)]) rfl rfl rfl rfl ?_
      refine d_toL (g_inj ns) hlw156 hRw156 (fun lvw165 memw165 hlw165 hRw165 => ?_)
      show h_T g_P (g_Y ns) 56 24 [(1, .int (Int32.ofInt (-4))), (0, .ref 63)] [] s0 _
      refine h_wk [(0, .ref 63), (1, .int (Int32.ofInt (-4)))] ⟨rfl, rfl, trivial⟩ (ls_ln I0 J0 (hTL.fr (F0_.mono rfl) (H0_.mono rfl)) (Int32.ofInt (-4)) _ ci_m4 r162 _ hr162 (by omega) (by omega) (by omega) ((ex7 (by omega)).1.1) ((ex7 (by omega)).1.2.1) ((ex7 (by omega)).1.2.2.1) ((ex7 (by omega)).1.2.2.2.1) ((ex7 (by omega)).1.2.2.2.2.1) ((ex7 (by omega)).1.2.2.2.2.2.1) (by omega) (ex7 (by omega)) (by omega) (by omega) ⟨by omega, by omega⟩ (fun sq166 tq166 Isq166 Itq166 Gsq166 Gtq166   yq166_0 yq166_1 yq166_2 yq166_3 yq166_4 yq166_5 pcq166 lvq166 memq166 hlq166 hRq166 => ?_) (fun sq167 tq167 Isq167 Itq167 Gsq167 Gtq167   yq167_0 yq167_1 yq167_2 yq167_3 yq167_4 pcq167 lvq167 memq167 hlq167 hRq167 => ?_) (fun sq168 tq168 Isq168 Itq168 Gsq168 Gtq168   yq168_0 yq168_1 yq168_2 yq168_3 yq168_4 pcq168 lvq168 memq168 hlq168 hRq168 => ?_) _ _ (h_al_ok ⟨rfl, rfl, trivial⟩ hlw165) hRw165)
      · have Fsq166 := (Gsq166.mono (B := k_px) rfl).tr F0_
        have Ftq166 := (Gtq166.mono (B := k_pm) rfl).tr H0_
        have Isq166 := Isq166
        have Itq166 := Itq166
        have Gsq166 := Gsq166
        have Gtq166 := Gtq166
        have esq166_6 : sq166 64 1 = s0 64 1 := (Gsq166 64 1 rfl).trans rfl
        have esq166_13 : sq166 63 4 = s0 63 4 := (Gsq166 63 4 rfl).trans rfl
        rcases pcq166 with pcq166 | pcq166
        · show h_T g_P (g_Y ns) 56 180 [(0, .ref 63)] [] sq166 _
          clear hr162
          refine h_vret rfl rfl (d_retn hlv153 ?_)
          refine h_aload_n (pc' := 64) rfl rfl rfl ?_
          refine h_dup (pc' := 65) rfl rfl rfl ?_
          refine h_getI (pc' := 68) (v := s0 63 4) rfl rfl rfl rfl rfl esq166_13 (fun z169 hz169 => ?_)
          have tz169 := tf_63_4 I0
          refine h_iconst (pc' := 69) (x := (Int32.ofInt 1)) rfl rfl rfl ?_
          refine h_iadd (pc' := 70) rfl rfl hz169 ci_1 rfl (by have g0 := h_rgv hz169; omega) (by have g0 := h_rgv hz169; omega) (fun z170 hz170 => ?_)
          clear hz169
          refine h_put (pc' := 73) rfl rfl rfl rfl rfl rfl hz170 rfl (h_fgt (E := fun s => s 64 2 = sq166 64 2 ∧ s 64 4 = sq166 64 4 ∧ s 64 3 = sq166 64 3 ∧ s 64 5 = sq166 64 5 ∧ s 63 2 = sq166 63 2 ∧ s 63 3 = sq166 63 3 ∧ s 64 1 = s0 64 1 ∧ s 66 8 = sq166 66 8 ∧ s 66 9 = sq166 66 9 ∧ s 66 10 = sq166 66 10 ∧ s 69 2 = sq166 69 2 ∧ s 72 2 = sq166 72 2 ∧ s 63 5 = sq166 63 5 ∧ s 63 4 = ((s0 63 4) + 1) ∧ s = h_up sq166 63 4 ((s0 63 4) + 1)) _ (if_63_4 Isq166 (h_rgv hz170)) (Fsq166.up rfl) ⟨rfl, rfl, rfl, rfl, rfl, rfl, esq166_6, rfl, rfl, rfl, rfl, rfl, rfl, rfl, rfl⟩ (fun s171 Is171 Fs171 (es171 : s171 64 2 = sq166 64 2 ∧ s171 64 4 = sq166 64 4 ∧ s171 64 3 = sq166 64 3 ∧ s171 64 5 = sq166 64 5 ∧ s171 63 2 = sq166 63 2 ∧ s171 63 3 = sq166 63 3 ∧ s171 64 1 = s0 64 1 ∧ s171 66 8 = sq166 66 8 ∧ s171 66 9 = sq166 66 9 ∧ s171 66 10 = sq166 66 10 ∧ s171 69 2 = sq166 69 2 ∧ s171 72 2 = sq166 72 2 ∧ s171 63 5 = sq166 63 5 ∧ s171 63 4 = ((s0 63 4) + 1) ∧ s171 = h_up sq166 63 4 ((s0 63 4) + 1)) => ?_))
          refine h_aload_n (pc' := 74) rfl rfl rfl ?_
          refine h_call (sp := false) (pc' := 77) (M := [(0, .ref 63)]) rfl rfl rfl rfl rfl rfl rfl rfl ?_
          refine h_aload_n (pc' := 1) rfl rfl rfl ?_
          refine h_getI (pc' := 4) (v := sq166 63 2) rfl rfl rfl rfl rfl es171.2.2.2.2.1 (fun z172 hz172 => ?_)
          have tz172 := tf_63_2 Isq166
          refine h_zne (tg := 37) (pc' := 7) rfl rfl rfl hz172 (fun c173 => ?_) (fun c173 => absurd c173 (by omega))
          clear hz172
          refine h_vret rfl rfl (h_Kn ?_)
          refine h_iinc (pc' := 80) (M := fun z174 => [(1, .int z174), (0, .ref 63)]) rfl rfl rfl rfl hx1 ci_1 rfl (by omega) (by omega) (fun _ => rfl) (fun z174 hz174 => ?_)
          refine h_goto (pc' := 35) rfl rfl ?_
          refine d_toM (g_inj ns) hlq166 hRq166 (fun lvw175 memw175 hlw175 hRw175 => ?_)
          show h_T g_P (g_Y ns) 154 165 [(0, .ref 98)] [] tq166 _
          refine h_aload_n (pc' := 166) rfl rfl rfl ?_
          refine h_call (sp := false) (pc' := 169) (M := [(0, .ref 98)]) rfl rfl rfl rfl rfl rfl rfl rfl ?_
          refine h_aload_n (pc' := 1) rfl rfl rfl ?_
          refine h_getI (pc' := 4) (v := tq166 98 13) rfl rfl rfl rfl rfl rfl (fun z176 hz176 => ?_)
          have tz176 := tf_98_13 Itq166
          refine h_zle (tg := 8) (pc' := 7) rfl rfl rfl hz176 (fun c177 => absurd c177 (by omega)) (fun c177 => ?_)
          clear hz176
          refine h_vret rfl rfl (h_Kn ?_)
          refine h_vret rfl rfl (d_retn hlv161 ?_)
          refine h_iinc (pc' := 83) (M := fun z178 => [(1, .int z178), (0, .ref 98)]) rfl rfl rfl rfl hy1 ci_1 rfl (by omega) (by omega) (fun _ => rfl) (fun z178 hz178 => ?_)
          refine h_goto (pc' := 62) rfl rfl ?_
          refine d_toL (g_inj ns) hlw175 hRw175 (fun lvw179 memw179 hlw179 hRw179 => ?_)
          show h_T g_P (g_Y ns) 52 35 [(1, .int z174), (0, .ref 63)] [] s171 _
          exact h_wk [(0, .ref 63), (1, .int z174)] ⟨rfl, rfl, trivial⟩ (ih _ _ Is171 Itq166 Fs171 Ftq166 z174 _ hz174 z178 _ hz178 (by omega) (by omega) (by omega) (by omega) (by omega) (by omega) (by omega) (fun h => absurd h (by omega)) (Or.inl ⟨by omega, by omega, by omega, by omega⟩) (by omega) _ _ (h_al_ok ⟨rfl, rfl, trivial⟩ hlw179) hRw179)
        · show h_T g_P (g_Y ns) 56 180 [(0, .ref 63)] [] sq166 _
          clear hr162
          refine h_vret rfl rfl (d_retn hlv153 ?_)
          refine h_aload_n (pc' := 64) rfl rfl rfl ?_
          refine h_dup (pc' := 65) rfl rfl rfl ?_
          refine h_getI (pc' := 68) (v := s0 63 4) rfl rfl rfl rfl rfl esq166_13 (fun z180 hz180 => ?_)
          have tz180 := tf_63_4 I0
          refine h_iconst (pc' := 69) (x := (Int32.ofInt 1)) rfl rfl rfl ?_
          refine h_iadd (pc' := 70) rfl rfl hz180 ci_1 rfl (by have g0 := h_rgv hz180; omega) (by have g0 := h_rgv hz180; omega) (fun z181 hz181 => ?_)
          clear hz180
          refine h_put (pc' := 73) rfl rfl rfl rfl rfl rfl hz181 rfl (h_fgt (E := fun s => s 64 2 = sq166 64 2 ∧ s 64 4 = sq166 64 4 ∧ s 64 3 = sq166 64 3 ∧ s 64 5 = sq166 64 5 ∧ s 63 2 = sq166 63 2 ∧ s 63 3 = sq166 63 3 ∧ s 64 1 = s0 64 1 ∧ s 66 8 = sq166 66 8 ∧ s 66 9 = sq166 66 9 ∧ s 66 10 = sq166 66 10 ∧ s 69 2 = sq166 69 2 ∧ s 72 2 = sq166 72 2 ∧ s 63 5 = sq166 63 5 ∧ s 63 4 = ((s0 63 4) + 1) ∧ s = h_up sq166 63 4 ((s0 63 4) + 1)) _ (if_63_4 Isq166 (h_rgv hz181)) (Fsq166.up rfl) ⟨rfl, rfl, rfl, rfl, rfl, rfl, esq166_6, rfl, rfl, rfl, rfl, rfl, rfl, rfl, rfl⟩ (fun s182 Is182 Fs182 (es182 : s182 64 2 = sq166 64 2 ∧ s182 64 4 = sq166 64 4 ∧ s182 64 3 = sq166 64 3 ∧ s182 64 5 = sq166 64 5 ∧ s182 63 2 = sq166 63 2 ∧ s182 63 3 = sq166 63 3 ∧ s182 64 1 = s0 64 1 ∧ s182 66 8 = sq166 66 8 ∧ s182 66 9 = sq166 66 9 ∧ s182 66 10 = sq166 66 10 ∧ s182 69 2 = sq166 69 2 ∧ s182 72 2 = sq166 72 2 ∧ s182 63 5 = sq166 63 5 ∧ s182 63 4 = ((s0 63 4) + 1) ∧ s182 = h_up sq166 63 4 ((s0 63 4) + 1)) => ?_))
          refine h_aload_n (pc' := 74) rfl rfl rfl ?_
          refine d_toM (g_inj ns) hlq166 hRq166 (fun lvw183 memw183 hlw183 hRw183 => ?_)
          show h_T g_P (g_Y ns) 154 165 [(0, .ref 98)] [] tq166 _
          refine h_aload_n (pc' := 166) rfl rfl rfl ?_
          refine d_pcall (g_inj ns) (m1 := 54) (pc1' := 77) (M1 := [(0, .ref 63)]) (rest1 := []) (m2 := 148) (pc2' := 169) (M2 := [(0, .ref 98)]) (rest2 := []) ⟨false, _, _, _, _, _, _, rfl, rfl, rfl, rfl, rfl, rfl, rfl⟩ ⟨false, _, _, _, _, _, _, rfl, rfl, rfl, rfl, rfl, rfl, rfl⟩ hRw183 ?_
          refine pp_step Is182 Itq166 (hTL.fr (Fs182.mono rfl) (Ftq166.mono rfl)) (by omega) (by omega) (by omega) (by omega) (Or.inr ⟨by omega, by omega⟩) (fun sq184 tq184 Isq184 Itq184 Gsq184 Gtq184 yq184_0 yq184_1 yq184_2 yq184_3 yq184_4 pcq184 memq184 hRq184 => ?_)
          have Fsq184 := (Gsq184.mono (B := k_px) rfl).tr Fs182
          have Ftq184 := (Gtq184.mono (B := k_pm) rfl).tr Ftq166
          have esq184_6 : sq184 64 1 = s0 64 1 := (Gsq184 64 1 rfl).trans es182.2.2.2.2.2.2.1
          have esq184_7 : sq184 66 8 = sq166 66 8 := (Gsq184 66 8 rfl).trans es182.2.2.2.2.2.2.2.1
          have esq184_8 : sq184 66 9 = sq166 66 9 := (Gsq184 66 9 rfl).trans es182.2.2.2.2.2.2.2.2.1
          have esq184_9 : sq184 66 10 = sq166 66 10 := (Gsq184 66 10 rfl).trans es182.2.2.2.2.2.2.2.2.2.1
          have esq184_10 : sq184 69 2 = sq166 69 2 := (Gsq184 69 2 rfl).trans es182.2.2.2.2.2.2.2.2.2.2.1
          have esq184_11 : sq184 72 2 = sq166 72 2 := (Gsq184 72 2 rfl).trans es182.2.2.2.2.2.2.2.2.2.2.2.1
          have esq184_12 : sq184 63 5 = sq166 63 5 := (Gsq184 63 5 rfl).trans es182.2.2.2.2.2.2.2.2.2.2.2.2.1
          have esq184_13 : sq184 63 4 = ((s0 63 4) + 1) := (Gsq184 63 4 rfl).trans es182.2.2.2.2.2.2.2.2.2.2.2.2.2.1
          have etq184_6 : tq184 98 5 = tq166 98 5 := (Gtq184 98 5 rfl).trans rfl
          have etq184_7 : tq184 98 6 = tq166 98 6 := (Gtq184 98 6 rfl).trans rfl
          have etq184_8 : tq184 98 7 = tq166 98 7 := (Gtq184 98 7 rfl).trans rfl
          have etq184_9 : tq184 98 8 = tq166 98 8 := (Gtq184 98 8 rfl).trans rfl
          have etq184_10 : tq184 98 9 = tq166 98 9 := (Gtq184 98 9 rfl).trans rfl
          have etq184_11 : tq184 101 18 = tq166 101 18 := (Gtq184 101 18 rfl).trans rfl
          have etq184_12 : tq184 101 25 = tq166 101 25 := (Gtq184 101 25 rfl).trans rfl
          have etq184_13 : tq184 101 43 = tq166 101 43 := (Gtq184 101 43 rfl).trans rfl
          show h_T g_P (g_Y ns) 154 169 [(0, .ref 98)] [] tq184 _
          refine h_vret rfl rfl (d_retn hlv161 ?_)
          refine h_iinc (pc' := 83) (M := fun z185 => [(1, .int z185), (0, .ref 98)]) rfl rfl rfl rfl hy1 ci_1 rfl (by omega) (by omega) (fun _ => rfl) (fun z185 hz185 => ?_)
          refine h_goto (pc' := 62) rfl rfl ?_
          refine d_toL (g_inj ns) hlw183 hRq184 (fun lvw186 memw186 hlw186 hRw186 => ?_)
          show h_T g_P (g_Y ns) 52 77 [(0, .ref 63), (1, .int x1)] [] sq184 _
          refine h_iinc (pc' := 80) (M := fun z187 => [(1, .int z187), (0, .ref 63)]) rfl rfl rfl rfl hx1 ci_1 rfl (by omega) (by omega) (fun _ => rfl) (fun z187 hz187 => ?_)
          refine h_goto (pc' := 35) rfl rfl ?_
          exact h_wk [(0, .ref 63), (1, .int z187)] ⟨rfl, rfl, trivial⟩ (ih _ _ Isq184 Itq184 Fsq184 Ftq184 z187 _ hz187 z185 _ hz185 (by omega) (by omega) (by omega) (by omega) (by omega) (by omega) (by omega) (fun _ => d_mk ((Gsq184 66 8 rfl).trans (h_upo es182.2.2.2.2.2.2.2.2.2.2.2.2.2.2 rfl 8)) ((Gsq184 66 9 rfl).trans (h_upo es182.2.2.2.2.2.2.2.2.2.2.2.2.2.2 rfl 9)) ((Gsq184 66 10 rfl).trans (h_upo es182.2.2.2.2.2.2.2.2.2.2.2.2.2.2 rfl 10)) ((Gsq184 69 2 rfl).trans (h_upo es182.2.2.2.2.2.2.2.2.2.2.2.2.2.2 rfl 2)) ((Gsq184 72 2 rfl).trans (h_upo es182.2.2.2.2.2.2.2.2.2.2.2.2.2.2 rfl 2)) ((Gsq184 63 5 rfl).trans (h_upd es182.2.2.2.2.2.2.2.2.2.2.2.2.2.2 (by decide))) (fun j => (Gsq184 67 j rfl).trans (h_upo es182.2.2.2.2.2.2.2.2.2.2.2.2.2.2 rfl j)) (fun j => (Gsq184 68 j rfl).trans (h_upo es182.2.2.2.2.2.2.2.2.2.2.2.2.2.2 rfl j)) (fun j => (Gsq184 70 j rfl).trans (h_upo es182.2.2.2.2.2.2.2.2.2.2.2.2.2.2 rfl j)) (fun j => (Gsq184 71 j rfl).trans (h_upo es182.2.2.2.2.2.2.2.2.2.2.2.2.2.2 rfl j)) (fun j => (Gsq184 73 j rfl).trans (h_upo es182.2.2.2.2.2.2.2.2.2.2.2.2.2.2 rfl j)) (fun j => (Gsq184 74 j rfl).trans (h_upo es182.2.2.2.2.2.2.2.2.2.2.2.2.2.2 rfl j)) (fun j => (Gsq184 75 j rfl).trans (h_upo es182.2.2.2.2.2.2.2.2.2.2.2.2.2.2 rfl j)) (fun j => (Gsq184 76 j rfl).trans (h_upo es182.2.2.2.2.2.2.2.2.2.2.2.2.2.2 rfl j)) (fun j => (Gsq184 77 j rfl).trans (h_upo es182.2.2.2.2.2.2.2.2.2.2.2.2.2.2 rfl j)) (fun j => (Gsq184 78 j rfl).trans (h_upo es182.2.2.2.2.2.2.2.2.2.2.2.2.2.2 rfl j)) ((Gtq184 98 5 rfl)) ((Gtq184 98 6 rfl)) ((Gtq184 98 7 rfl)) ((Gtq184 98 8 rfl)) ((Gtq184 98 9 rfl)) (fun j => (Gtq184 101 j rfl)) (yq166_5 (by omega))) (pcq184.elim (fun pcq184 => (Or.inl ⟨by omega, by omega, by omega, by omega⟩)) (fun pcq184 => (pcq184.elim (fun pcq184 => (Or.inr (Or.inl ⟨by omega, by omega, by omega, by omega, by omega⟩))) (fun pcq184 => (pcq184.elim (fun pcq184 => (Or.inr (Or.inr (Or.inl ⟨by omega, by omega, by omega, by omega, by omega, by omega⟩)))) (fun pcq184 => (pcq184.elim (fun pcq184 => (Or.inr (Or.inr (Or.inr (Or.inl ⟨by omega, by omega, by omega, by omega, by omega, by omega, by omega, by omega, by omega⟩))))) (fun pcq184 => (Or.inr (Or.inr (Or.inr (Or.inr ⟨by omega, by omega, by omega, by omega, by omega, by omega⟩)))))))))))) (by omega) _ _ (h_al_ok ⟨rfl, rfl, trivial⟩ hlw186) hRw186)
      · have Fsq167 := (Gsq167.mono (B := k_px) rfl).tr F0_
        have Ftq167 := (Gtq167.mono (B := k_pm) rfl).tr H0_
        have Isq167 := Isq167
        have Itq167 := Itq167
        have Gsq167 := Gsq167
        have Gtq167 := Gtq167
        have esq167_6 : sq167 64 1 = s0 64 1 := (Gsq167 64 1 rfl).trans rfl
        have esq167_13 : sq167 63 4 = s0 63 4 := (Gsq167 63 4 rfl).trans rfl
        show h_T g_P (g_Y ns) 56 180 [(0, .ref 63)] [] sq167 _
        clear hr162
        refine h_vret rfl rfl (d_retn hlv153 ?_)
        refine h_aload_n (pc' := 64) rfl rfl rfl ?_
        refine h_dup (pc' := 65) rfl rfl rfl ?_
        refine h_getI (pc' := 68) (v := s0 63 4) rfl rfl rfl rfl rfl esq167_13 (fun z188 hz188 => ?_)
        have tz188 := tf_63_4 I0
        refine h_iconst (pc' := 69) (x := (Int32.ofInt 1)) rfl rfl rfl ?_
        refine h_iadd (pc' := 70) rfl rfl hz188 ci_1 rfl (by have g0 := h_rgv hz188; omega) (by have g0 := h_rgv hz188; omega) (fun z189 hz189 => ?_)
        clear hz188
        refine h_put (pc' := 73) rfl rfl rfl rfl rfl rfl hz189 rfl (h_fgt (E := fun s => s 64 2 = sq167 64 2 ∧ s 64 4 = sq167 64 4 ∧ s 64 3 = sq167 64 3 ∧ s 64 5 = sq167 64 5 ∧ s 63 2 = sq167 63 2 ∧ s 63 3 = sq167 63 3 ∧ s 64 1 = s0 64 1 ∧ s 66 8 = sq167 66 8 ∧ s 66 9 = sq167 66 9 ∧ s 66 10 = sq167 66 10 ∧ s 69 2 = sq167 69 2 ∧ s 72 2 = sq167 72 2 ∧ s 63 5 = sq167 63 5 ∧ s 63 4 = ((s0 63 4) + 1) ∧ s = h_up sq167 63 4 ((s0 63 4) + 1)) _ (if_63_4 Isq167 (h_rgv hz189)) (Fsq167.up rfl) ⟨rfl, rfl, rfl, rfl, rfl, rfl, esq167_6, rfl, rfl, rfl, rfl, rfl, rfl, rfl, rfl⟩ (fun s190 Is190 Fs190 (es190 : s190 64 2 = sq167 64 2 ∧ s190 64 4 = sq167 64 4 ∧ s190 64 3 = sq167 64 3 ∧ s190 64 5 = sq167 64 5 ∧ s190 63 2 = sq167 63 2 ∧ s190 63 3 = sq167 63 3 ∧ s190 64 1 = s0 64 1 ∧ s190 66 8 = sq167 66 8 ∧ s190 66 9 = sq167 66 9 ∧ s190 66 10 = sq167 66 10 ∧ s190 69 2 = sq167 69 2 ∧ s190 72 2 = sq167 72 2 ∧ s190 63 5 = sq167 63 5 ∧ s190 63 4 = ((s0 63 4) + 1) ∧ s190 = h_up sq167 63 4 ((s0 63 4) + 1)) => ?_))
        refine h_aload_n (pc' := 74) rfl rfl rfl ?_
        refine h_call (sp := false) (pc' := 77) (M := [(0, .ref 63)]) rfl rfl rfl rfl rfl rfl rfl rfl ?_
        refine h_aload_n (pc' := 1) rfl rfl rfl ?_
        refine h_getI (pc' := 4) (v := sq167 63 2) rfl rfl rfl rfl rfl es190.2.2.2.2.1 (fun z191 hz191 => ?_)
        have tz191 := tf_63_2 Isq167
        refine h_zne (tg := 37) (pc' := 7) rfl rfl rfl hz191 (fun c192 => ?_) (fun c192 => absurd c192 (by omega))
        clear hz191
        refine h_vret rfl rfl (h_Kn ?_)
        refine h_iinc (pc' := 80) (M := fun z193 => [(1, .int z193), (0, .ref 63)]) rfl rfl rfl rfl hx1 ci_1 rfl (by omega) (by omega) (fun _ => rfl) (fun z193 hz193 => ?_)
        refine h_goto (pc' := 35) rfl rfl ?_
        refine d_toM (g_inj ns) hlq167 hRq167 (fun lvw194 memw194 hlw194 hRw194 => ?_)
        show h_T g_P (g_Y ns) 154 139 [(0, .ref 98)] [] tq167 _
        refine h_vret rfl rfl (d_retn hlv161 ?_)
        refine h_iinc (pc' := 83) (M := fun z195 => [(1, .int z195), (0, .ref 98)]) rfl rfl rfl rfl hy1 ci_1 rfl (by omega) (by omega) (fun _ => rfl) (fun z195 hz195 => ?_)
        refine h_goto (pc' := 62) rfl rfl ?_
        refine d_toL (g_inj ns) hlw194 hRw194 (fun lvw196 memw196 hlw196 hRw196 => ?_)
        show h_T g_P (g_Y ns) 52 35 [(1, .int z193), (0, .ref 63)] [] s190 _
        exact h_wk [(0, .ref 63), (1, .int z193)] ⟨rfl, rfl, trivial⟩ (ih _ _ Is190 Itq167 Fs190 Ftq167 z193 _ hz193 z195 _ hz195 (by omega) (by omega) (by omega) (by omega) (by omega) (by omega) (by omega) (fun h => absurd h (by omega)) (Or.inl ⟨by omega, by omega, by omega, by omega⟩) (by omega) _ _ (h_al_ok ⟨rfl, rfl, trivial⟩ hlw196) hRw196)
      · have Fsq168 := (Gsq168.mono (B := k_px) rfl).tr F0_
        have Ftq168 := (Gtq168.mono (B := k_pm) rfl).tr H0_
        have Isq168 := Isq168
        have Itq168 := Itq168
        have Gsq168 := Gsq168
        have Gtq168 := Gtq168
        have esq168_6 : sq168 64 1 = s0 64 1 := (Gsq168 64 1 rfl).trans rfl
        have esq168_13 : sq168 63 4 = s0 63 4 := (Gsq168 63 4 rfl).trans rfl
        show h_T g_P (g_Y ns) 56 180 [(0, .ref 63)] [] sq168 _
        clear hr162
        refine h_vret rfl rfl (d_retn hlv153 ?_)
        refine h_aload_n (pc' := 64) rfl rfl rfl ?_
        refine h_dup (pc' := 65) rfl rfl rfl ?_
        refine h_getI (pc' := 68) (v := s0 63 4) rfl rfl rfl rfl rfl esq168_13 (fun z197 hz197 => ?_)
        have tz197 := tf_63_4 I0
        refine h_iconst (pc' := 69) (x := (Int32.ofInt 1)) rfl rfl rfl ?_
        refine h_iadd (pc' := 70) rfl rfl hz197 ci_1 rfl (by have g0 := h_rgv hz197; omega) (by have g0 := h_rgv hz197; omega) (fun z198 hz198 => ?_)
        clear hz197
        refine h_put (pc' := 73) rfl rfl rfl rfl rfl rfl hz198 rfl (h_fgt (E := fun s => s 64 2 = sq168 64 2 ∧ s 64 4 = sq168 64 4 ∧ s 64 3 = sq168 64 3 ∧ s 64 5 = sq168 64 5 ∧ s 63 2 = sq168 63 2 ∧ s 63 3 = sq168 63 3 ∧ s 64 1 = s0 64 1 ∧ s 66 8 = sq168 66 8 ∧ s 66 9 = sq168 66 9 ∧ s 66 10 = sq168 66 10 ∧ s 69 2 = sq168 69 2 ∧ s 72 2 = sq168 72 2 ∧ s 63 5 = sq168 63 5 ∧ s 63 4 = ((s0 63 4) + 1) ∧ s = h_up sq168 63 4 ((s0 63 4) + 1)) _ (if_63_4 Isq168 (h_rgv hz198)) (Fsq168.up rfl) ⟨rfl, rfl, rfl, rfl, rfl, rfl, esq168_6, rfl, rfl, rfl, rfl, rfl, rfl, rfl, rfl⟩ (fun s199 Is199 Fs199 (es199 : s199 64 2 = sq168 64 2 ∧ s199 64 4 = sq168 64 4 ∧ s199 64 3 = sq168 64 3 ∧ s199 64 5 = sq168 64 5 ∧ s199 63 2 = sq168 63 2 ∧ s199 63 3 = sq168 63 3 ∧ s199 64 1 = s0 64 1 ∧ s199 66 8 = sq168 66 8 ∧ s199 66 9 = sq168 66 9 ∧ s199 66 10 = sq168 66 10 ∧ s199 69 2 = sq168 69 2 ∧ s199 72 2 = sq168 72 2 ∧ s199 63 5 = sq168 63 5 ∧ s199 63 4 = ((s0 63 4) + 1) ∧ s199 = h_up sq168 63 4 ((s0 63 4) + 1)) => ?_))
        refine h_aload_n (pc' := 74) rfl rfl rfl ?_
        refine h_call (sp := false) (pc' := 77) (M := [(0, .ref 63)]) rfl rfl rfl rfl rfl rfl rfl rfl ?_
        refine h_aload_n (pc' := 1) rfl rfl rfl ?_
        refine h_getI (pc' := 4) (v := sq168 63 2) rfl rfl rfl rfl rfl es199.2.2.2.2.1 (fun z200 hz200 => ?_)
        have tz200 := tf_63_2 Isq168
        refine h_zne (tg := 37) (pc' := 7) rfl rfl rfl hz200 (fun c201 => ?_) (fun c201 => absurd c201 (by omega))
        clear hz200
        refine h_vret rfl rfl (h_Kn ?_)
        refine h_iinc (pc' := 80) (M := fun z202 => [(1, .int z202), (0, .ref 63)]) rfl rfl rfl rfl hx1 ci_1 rfl (by omega) (by omega) (fun _ => rfl) (fun z202 hz202 => ?_)
        refine h_goto (pc' := 35) rfl rfl ?_
        refine d_toM (g_inj ns) hlq168 hRq168 (fun lvw203 memw203 hlw203 hRw203 => ?_)
        show h_T g_P (g_Y ns) 154 22 [(0, .ref 98)] [] tq168 _
        refine h_vret rfl rfl (d_retn hlv161 ?_)
        refine h_iinc (pc' := 83) (M := fun z204 => [(1, .int z204), (0, .ref 98)]) rfl rfl rfl rfl hy1 ci_1 rfl (by omega) (by omega) (fun _ => rfl) (fun z204 hz204 => ?_)
        refine h_goto (pc' := 62) rfl rfl ?_
        refine d_toL (g_inj ns) hlw203 hRw203 (fun lvw205 memw205 hlw205 hRw205 => ?_)
        show h_T g_P (g_Y ns) 52 35 [(1, .int z202), (0, .ref 63)] [] s199 _
        exact h_wk [(0, .ref 63), (1, .int z202)] ⟨rfl, rfl, trivial⟩ (ih _ _ Is199 Itq168 Fs199 Ftq168 z202 _ hz202 z204 _ hz204 (by omega) (by omega) (by omega) (by omega) (by omega) (by omega) (by omega) (fun h => absurd h (by omega)) (Or.inl ⟨by omega, by omega, by omega, by omega⟩) (by omega) _ _ (h_al_ok ⟨rfl, rfl, trivial⟩ hlw205) hRw205)
