set_option maxHeartbeats 100000000 in
theorem lp_pl {ns : Nat} {σ1 σ2 : h_S} (hI1 : h_I σ1) (hI2 : h_I σ2) (hTL : d_tape σ1 σ2) {cs1 cs2 : List d_Fr} {Q : d_Q} (kx0 : ∀ (s t : h_S), h_I s → h_I t → h_F (k_in k_pl) s σ1 → h_F (k_in k_pm) t σ2 → (s 64 2 = t 98 15) → (s 64 4 = t 98 16) → (s 63 2 = t 98 13) → (s 64 2 ≤ s 64 1) → (σ1 64 2 ≤ s 64 2) → (d_ok s t) → (s 63 5 = 1) → (t 98 7 = 1) → (((1 ≤ s 63 2 ∧ s 63 2 ≤ 6) ∧ (1 ≤ t 98 13 ∧ t 98 13 ≤ 6) ∧ (s 63 2 = t 98 13) ∧ (s 63 3 = t 98 14)) ∨ ((s 63 2 = 0) ∧ (s 64 3 = 0) ∧ (t 98 13 = 0) ∧ (t 98 17 = 0) ∧ (s 64 4 = s 64 1)) ∨ ((s 63 2 = 0) ∧ (s 64 3 = 1) ∧ (t 98 13 = 0) ∧ (t 98 17 = 1) ∧ (s 64 4 < s 64 2) ∧ ((s 64 2 = σ1 64 2 ∧ s 64 3 = σ1 64 3) ∨ σ1 64 2 < s 64 2)) ∨ ((s 63 2 = 0) ∧ (s 64 3 = 2) ∧ (t 98 13 = 0) ∧ (t 98 17 = 2) ∧ (0 ≤ s 64 5 ∧ s 64 5 ≤ 99) ∧ (0 ≤ t 98 18 ∧ t 98 18 ≤ 99) ∧ (s 64 5 = t 98 18) ∧ (s 64 4 < s 64 2) ∧ ((s 64 2 = σ1 64 2 ∧ s 64 3 = σ1 64 3) ∨ σ1 64 2 < s 64 2)) ∨ ((s 63 2 = 0) ∧ (s 64 3 = 3) ∧ (t 98 13 = 0) ∧ (t 98 17 = 3) ∧ (s 64 4 < s 64 2) ∧ ((s 64 2 = σ1 64 2 ∧ s 64 3 = σ1 64 3) ∨ σ1 64 2 < s 64 2))) → ∀ lv2 mem2, h_loc [(0, .ref 98)] lv2 → h_R (g_Y ns) t mem2 → h_T g_P (g_Y ns) 62 53 [(0, .ref 63)] [] s (d_cs g_P (g_Y ns) cs1 (d_L g_P (g_Y ns) (152, 167, lv2, []) cs2 mem2 Q))) : ∀ (n : Nat) (s t : h_S), h_I s → h_I t → h_F (k_in k_pl) s σ1 → h_F (k_in k_pm) t σ2 → ∀ (x1 : Int32) (a1 : Int), x1.toInt = a1 → (s 64 2 = t 98 15) → (s 64 4 = t 98 16) → (s 63 2 = t 98 13) → (s 64 2 ≤ s 64 1) → (s 63 5 = 1) → (t 98 7 = 1) → (0 ≤ a1 ∧ a1 ≤ 9) → (s 63 2 = 0 → a1 = s 66 10) → (σ1 64 2 ≤ s 64 2) → (d_ok s t) → (((1 ≤ s 63 2 ∧ s 63 2 ≤ 6) ∧ (1 ≤ t 98 13 ∧ t 98 13 ≤ 6) ∧ (s 63 2 = t 98 13) ∧ (s 63 3 = t 98 14)) ∨ ((s 63 2 = 0) ∧ (s 64 3 = 0) ∧ (t 98 13 = 0) ∧ (t 98 17 = 0) ∧ (s 64 4 = s 64 1)) ∨ ((s 63 2 = 0) ∧ (s 64 3 = 1) ∧ (t 98 13 = 0) ∧ (t 98 17 = 1) ∧ (s 64 4 < s 64 2) ∧ ((s 64 2 = σ1 64 2 ∧ s 64 3 = σ1 64 3) ∨ σ1 64 2 < s 64 2)) ∨ ((s 63 2 = 0) ∧ (s 64 3 = 2) ∧ (t 98 13 = 0) ∧ (t 98 17 = 2) ∧ (0 ≤ s 64 5 ∧ s 64 5 ≤ 99) ∧ (0 ≤ t 98 18 ∧ t 98 18 ≤ 99) ∧ (s 64 5 = t 98 18) ∧ (s 64 4 < s 64 2) ∧ ((s 64 2 = σ1 64 2 ∧ s 64 3 = σ1 64 3) ∨ σ1 64 2 < s 64 2)) ∨ ((s 63 2 = 0) ∧ (s 64 3 = 3) ∧ (t 98 13 = 0) ∧ (t 98 17 = 3) ∧ (s 64 4 < s 64 2) ∧ ((s 64 2 = σ1 64 2 ∧ s 64 3 = σ1 64 3) ∨ σ1 64 2 < s 64 2))) → (161 - s 64 2) * 10 - s 63 2 + 6 ≤ (n : Int) → ∀ lv2 mem2, h_loc [(0, .ref 98)] lv2 → h_R (g_Y ns) t mem2 → h_T g_P (g_Y ns) 62 30 [(0, .ref 63), (1, .int x1)] [] s (d_cs g_P (g_Y ns) cs1 (d_L g_P (g_Y ns) (152, 0, lv2, []) cs2 mem2 Q)) := by
  have hT := hTL.1
  have hL := hTL.2
  intro n
  induction n with
  | zero => intro s0 t0 I0 J0 F0_ H0_ x1 a1 hx1 ex0 ex1 ex2 ex3 ex4 ex5 ex6 ex7 ex8 ex9 pc0 hm lv2 mem2 hl2 hR2; have ge0 := tf_64_1 hI1; have ge1 := tf_64_2 I0; have ge2 := tf_63_2 I0; have ge3 := tf_66_8 I0; have ge4 := tf_66_9 I0; have ge5 := tf_66_10 I0; have ge6 := tf_69_2 I0; have ge7 := tf_72_2 I0; have ge8 := tf_98_8 J0; have ge9 := tf_98_9 J0; have ge10 := F0_ 64 1 rfl; exfalso; omega
  | succ n ih =>
    intro s0 t0 I0 J0 F0_ H0_ x1 a1 hx1 ex0 ex1 ex2 ex3 ex4 ex5 ex6 ex7 ex8 ex9 pc0 hm lv2 mem2 hl2 hR2; have ge0 := tf_64_1 hI1; have ge1 := tf_64_2 I0; have ge2 := tf_63_2 I0; have ge3 := tf_66_8 I0; have ge4 := tf_66_9 I0; have ge5 := tf_66_10 I0; have ge6 := tf_69_2 I0; have ge7 := tf_72_2 I0; have ge8 := tf_98_8 J0; have ge9 := tf_98_9 J0; have ge10 := F0_ 64 1 rfl
    rcases pc0 with pc0 | pc0 | pc0 | pc0 | pc0
    · show h_T g_P (g_Y ns) 62 30 [(0, .ref 63), (1, .int x1)] [] s0 _
      refine h_iload_n (pc' := 31) rfl rfl rfl ?_
      refine h_bipush (pc' := 33) (x := (Int32.ofInt 8)) rfl rfl cb_8 ?_
      refine h_cgt (tg := 53) (pc' := 36) rfl rfl rfl hx1 ci_8 (fun c21 => ?_) (fun c21 => ?_)
      · refine d_toM (g_inj ns) hl2 hR2 (fun lvw22 memw22 hlw22 hRw22 => ?_)
        show h_T g_P (g_Y ns) 152 0 [(0, .ref 98)] [] t0 _
        refine h_aload_n (pc' := 1) rfl rfl rfl ?_
        refine h_getI (pc' := 4) (v := t0 98 13) rfl rfl rfl rfl rfl rfl (fun z23 hz23 => ?_)
        have tz23 := tf_98_13 J0
        refine h_zne (tg := 167) (pc' := 7) rfl rfl rfl hz23 (fun c24 => ?_) (fun c24 => absurd c24 (by omega))
        clear hz23
        refine d_toL (g_inj ns) hlw22 hRw22 (fun lvw25 memw25 hlw25 hRw25 => ?_)
        show h_T g_P (g_Y ns) 62 53 [(0, .ref 63), (1, .int x1)] [] s0 _
        exact h_wk [(0, .ref 63)] ⟨rfl, trivial⟩ (kx0 _ _ I0 J0 F0_ H0_ (by omega) (by omega) (by omega) (by omega) (by omega) (fun h => absurd h (by omega)) (by omega) (by omega) (Or.inl ⟨by omega, by omega, by omega, by omega⟩) _ _ (h_al_ok ⟨rfl, trivial⟩ hlw25) hRw25)
      · refine h_aload_n (pc' := 37) rfl rfl rfl ?_
        refine h_call (sp := false) (pc' := 40) (M := [(0, .ref 63)]) rfl rfl rfl rfl rfl rfl rfl rfl ?_
        refine h_aload_n (pc' := 1) rfl rfl rfl ?_
        refine h_getI (pc' := 4) (v := s0 63 2) rfl rfl rfl rfl rfl rfl (fun z26 hz26 => ?_)
        have tz26 := tf_63_2 I0
        refine h_zne (tg := 22) (pc' := 7) rfl rfl rfl hz26 (fun c27 => ?_) (fun c27 => absurd c27 (by omega))
        clear hz26
        refine h_iconst (pc' := 23) (x := (Int32.ofInt 0)) rfl rfl rfl ?_
        refine h_zret rfl rfl ci_0 (by omega) (h_Kv ?_)
        refine h_zeq (tg := 53) (pc' := 43) rfl rfl rfl ci_0 (fun c28 => ?_) (fun c28 => absurd c28 (by omega))
        refine d_toM (g_inj ns) hl2 hR2 (fun lvw29 memw29 hlw29 hRw29 => ?_)
        show h_T g_P (g_Y ns) 152 0 [(0, .ref 98)] [] t0 _
        refine h_aload_n (pc' := 1) rfl rfl rfl ?_
        refine h_getI (pc' := 4) (v := t0 98 13) rfl rfl rfl rfl rfl rfl (fun z30 hz30 => ?_)
        have tz30 := tf_98_13 J0
        refine h_zne (tg := 167) (pc' := 7) rfl rfl rfl hz30 (fun c31 => ?_) (fun c31 => absurd c31 (by omega))
        clear hz30
        refine d_toL (g_inj ns) hlw29 hRw29 (fun lvw32 memw32 hlw32 hRw32 => ?_)
        show h_T g_P (g_Y ns) 62 53 [(0, .ref 63), (1, .int x1)] [] s0 _
        exact h_wk [(0, .ref 63)] ⟨rfl, trivial⟩ (kx0 _ _ I0 J0 F0_ H0_ (by omega) (by omega) (by omega) (by omega) (by omega) (fun h => absurd h (by omega)) (by omega) (by omega) (Or.inl ⟨by omega, by omega, by omega, by omega⟩) _ _ (h_al_ok ⟨rfl, trivial⟩ hlw32) hRw32)
    · show h_T g_P (g_Y ns) 62 30 [(0, .ref 63), (1, .int x1)] [] s0 _
      refine h_iload_n (pc' := 31) rfl rfl rfl ?_
      refine h_bipush (pc' := 33) (x := (Int32.ofInt 8)) rfl rfl cb_8 ?_
      refine h_cgt (tg := 53) (pc' := 36) rfl rfl rfl hx1 ci_8 (fun c33 => ?_) (fun c33 => ?_)
      · refine d_toM (g_inj ns) hl2 hR2 (fun lvw34 memw34 hlw34 hRw34 => ?_)
        show h_T g_P (g_Y ns) 152 0 [(0, .ref 98)] [] t0 _
        refine h_aload_n (pc' := 1) rfl rfl rfl ?_
        refine h_getI (pc' := 4) (v := t0 98 13) rfl rfl rfl rfl rfl rfl (fun z35 hz35 => ?_)
        have tz35 := tf_98_13 J0
        refine h_zne (tg := 167) (pc' := 7) rfl rfl rfl hz35 (fun c36 => absurd c36 (by omega)) (fun c36 => ?_)
        clear hz35
        refine h_aload_n (pc' := 8) rfl rfl rfl ?_
        refine h_getI (pc' := 11) (v := t0 98 17) rfl rfl rfl rfl rfl rfl (fun z37 hz37 => ?_)
        have tz37 := tf_98_17 J0
        refine h_iconst (pc' := 12) (x := (Int32.ofInt 2)) rfl rfl rfl ?_
        refine h_cne (tg := 167) (pc' := 15) rfl rfl rfl hz37 ci_2 (fun c38 => ?_) (fun c38 => absurd c38 (by omega))
        clear hz37
        refine d_toL (g_inj ns) hlw34 hRw34 (fun lvw39 memw39 hlw39 hRw39 => ?_)
        show h_T g_P (g_Y ns) 62 53 [(0, .ref 63), (1, .int x1)] [] s0 _
        exact h_wk [(0, .ref 63)] ⟨rfl, trivial⟩ (kx0 _ _ I0 J0 F0_ H0_ (by omega) (by omega) (by omega) (by omega) (by omega) (ex9) (by omega) (by omega) (Or.inr (Or.inl ⟨by omega, by omega, by omega, by omega, by omega⟩)) _ _ (h_al_ok ⟨rfl, trivial⟩ hlw39) hRw39)
      · refine h_aload_n (pc' := 37) rfl rfl rfl ?_
        refine h_call (sp := false) (pc' := 40) (M := [(0, .ref 63)]) rfl rfl rfl rfl rfl rfl rfl rfl ?_
        refine h_aload_n (pc' := 1) rfl rfl rfl ?_
        refine h_getI (pc' := 4) (v := s0 63 2) rfl rfl rfl rfl rfl rfl (fun z40 hz40 => ?_)
        have tz40 := tf_63_2 I0
        refine h_zne (tg := 22) (pc' := 7) rfl rfl rfl hz40 (fun c41 => absurd c41 (by omega)) (fun c41 => ?_)
        clear hz40
        refine h_aload_n (pc' := 8) rfl rfl rfl ?_
        refine h_getR (pc' := 11) rfl rfl rfl rfl rfl ?_
        refine h_getI (pc' := 14) (v := s0 64 3) rfl rfl rfl rfl rfl rfl (fun z42 hz42 => ?_)
        have tz42 := tf_64_3 I0
        refine h_iconst (pc' := 15) (x := (Int32.ofInt 2)) rfl rfl rfl ?_
        refine h_cne (tg := 22) (pc' := 18) rfl rfl rfl hz42 ci_2 (fun c43 => ?_) (fun c43 => absurd c43 (by omega))
        clear hz42
        refine h_iconst (pc' := 23) (x := (Int32.ofInt 0)) rfl rfl rfl ?_
        refine h_zret rfl rfl ci_0 (by omega) (h_Kv ?_)
        refine h_zeq (tg := 53) (pc' := 43) rfl rfl rfl ci_0 (fun c44 => ?_) (fun c44 => absurd c44 (by omega))
        refine d_toM (g_inj ns) hl2 hR2 (fun lvw45 memw45 hlw45 hRw45 => ?_)
        show h_T g_P (g_Y ns) 152 0 [(0, .ref 98)] [] t0 _
        refine h_aload_n (pc' := 1) rfl rfl rfl ?_
        refine h_getI (pc' := 4) (v := t0 98 13) rfl rfl rfl rfl rfl rfl (fun z46 hz46 => ?_)
        have tz46 := tf_98_13 J0
        refine h_zne (tg := 167) (pc' := 7) rfl rfl rfl hz46 (fun c47 => absurd c47 (by omega)) (fun c47 => ?_)
        clear hz46
        refine h_aload_n (pc' := 8) rfl rfl rfl ?_
        refine h_getI (pc' := 11) (v := t0 98 17) rfl rfl rfl rfl rfl rfl (fun z48 hz48 => ?_)
        have tz48 := tf_98_17 J0
        refine h_iconst (pc' := 12) (x := (Int32.ofInt 2)) rfl rfl rfl ?_
        refine h_cne (tg := 167) (pc' := 15) rfl rfl rfl hz48 ci_2 (fun c49 => ?_) (fun c49 => absurd c49 (by omega))
        clear hz48
        refine d_toL (g_inj ns) hlw45 hRw45 (fun lvw50 memw50 hlw50 hRw50 => ?_)
        show h_T g_P (g_Y ns) 62 53 [(0, .ref 63), (1, .int x1)] [] s0 _
        exact h_wk [(0, .ref 63)] ⟨rfl, trivial⟩ (kx0 _ _ I0 J0 F0_ H0_ (by omega) (by omega) (by omega) (by omega) (by omega) (ex9) (by omega) (by omega) (Or.inr (Or.inl ⟨by omega, by omega, by omega, by omega, by omega⟩)) _ _ (h_al_ok ⟨rfl, trivial⟩ hlw50) hRw50)
    · show h_T g_P (g_Y ns) 62 30 [(0, .ref 63), (1, .int x1)] [] s0 _
      refine h_iload_n (pc' := 31) rfl rfl rfl ?_
      refine h_bipush (pc' := 33) (x := (Int32.ofInt 8)) rfl rfl cb_8 ?_
      refine h_cgt (tg := 53) (pc' := 36) rfl rfl rfl hx1 ci_8 (fun c51 => ?_) (fun c51 => ?_)
      · refine d_toM (g_inj ns) hl2 hR2 (fun lvw52 memw52 hlw52 hRw52 => ?_)
        show h_T g_P (g_Y ns) 152 0 [(0, .ref 98)] [] t0 _
        refine h_aload_n (pc' := 1) rfl rfl rfl ?_
        refine h_getI (pc' := 4) (v := t0 98 13) rfl rfl rfl rfl rfl rfl (fun z53 hz53 => ?_)
        have tz53 := tf_98_13 J0
        refine h_zne (tg := 167) (pc' := 7) rfl rfl rfl hz53 (fun c54 => absurd c54 (by omega)) (fun c54 => ?_)
        clear hz53
        refine h_aload_n (pc' := 8) rfl rfl rfl ?_
        refine h_getI (pc' := 11) (v := t0 98 17) rfl rfl rfl rfl rfl rfl (fun z55 hz55 => ?_)
        have tz55 := tf_98_17 J0
        refine h_iconst (pc' := 12) (x := (Int32.ofInt 2)) rfl rfl rfl ?_
        refine h_cne (tg := 167) (pc' := 15) rfl rfl rfl hz55 ci_2 (fun c56 => ?_) (fun c56 => absurd c56 (by omega))
        clear hz55
        refine d_toL (g_inj ns) hlw52 hRw52 (fun lvw57 memw57 hlw57 hRw57 => ?_)
        show h_T g_P (g_Y ns) 62 53 [(0, .ref 63), (1, .int x1)] [] s0 _
        exact h_wk [(0, .ref 63)] ⟨rfl, trivial⟩ (kx0 _ _ I0 J0 F0_ H0_ (by omega) (by omega) (by omega) (by omega) (by omega) (ex9) (by omega) (by omega) (Or.inr (Or.inr (Or.inl ⟨by omega, by omega, by omega, by omega, by omega, by omega⟩))) _ _ (h_al_ok ⟨rfl, trivial⟩ hlw57) hRw57)
      · refine h_aload_n (pc' := 37) rfl rfl rfl ?_
        refine h_call (sp := false) (pc' := 40) (M := [(0, .ref 63)]) rfl rfl rfl rfl rfl rfl rfl rfl ?_
        refine h_aload_n (pc' := 1) rfl rfl rfl ?_
        refine h_getI (pc' := 4) (v := s0 63 2) rfl rfl rfl rfl rfl rfl (fun z58 hz58 => ?_)
        have tz58 := tf_63_2 I0
        refine h_zne (tg := 22) (pc' := 7) rfl rfl rfl hz58 (fun c59 => absurd c59 (by omega)) (fun c59 => ?_)
        clear hz58
        refine h_aload_n (pc' := 8) rfl rfl rfl ?_
        refine h_getR (pc' := 11) rfl rfl rfl rfl rfl ?_
        refine h_getI (pc' := 14) (v := s0 64 3) rfl rfl rfl rfl rfl rfl (fun z60 hz60 => ?_)
        have tz60 := tf_64_3 I0
        refine h_iconst (pc' := 15) (x := (Int32.ofInt 2)) rfl rfl rfl ?_
        refine h_cne (tg := 22) (pc' := 18) rfl rfl rfl hz60 ci_2 (fun c61 => ?_) (fun c61 => absurd c61 (by omega))
        clear hz60
        refine h_iconst (pc' := 23) (x := (Int32.ofInt 0)) rfl rfl rfl ?_
        refine h_zret rfl rfl ci_0 (by omega) (h_Kv ?_)
        refine h_zeq (tg := 53) (pc' := 43) rfl rfl rfl ci_0 (fun c62 => ?_) (fun c62 => absurd c62 (by omega))
        refine d_toM (g_inj ns) hl2 hR2 (fun lvw63 memw63 hlw63 hRw63 => ?_)
        show h_T g_P (g_Y ns) 152 0 [(0, .ref 98)] [] t0 _
        refine h_aload_n (pc' := 1) rfl rfl rfl ?_
        refine h_getI (pc' := 4) (v := t0 98 13) rfl rfl rfl rfl rfl rfl (fun z64 hz64 => ?_)
        have tz64 := tf_98_13 J0
        refine h_zne (tg := 167) (pc' := 7) rfl rfl rfl hz64 (fun c65 => absurd c65 (by omega)) (fun c65 => ?_)
        clear hz64
        refine h_aload_n (pc' := 8) rfl rfl rfl ?_
        refine h_getI (pc' := 11) (v := t0 98 17) rfl rfl rfl rfl rfl rfl (fun z66 hz66 => ?_)
        have tz66 := tf_98_17 J0
        refine h_iconst (pc' := 12) (x := (Int32.ofInt 2)) rfl rfl rfl ?_
        refine h_cne (tg := 167) (pc' := 15) rfl rfl rfl hz66 ci_2 (fun c67 => ?_) (fun c67 => absurd c67 (by omega))
        clear hz66
        refine d_toL (g_inj ns) hlw63 hRw63 (fun lvw68 memw68 hlw68 hRw68 => ?_)
        show h_T g_P (g_Y ns) 62 53 [(0, .ref 63), (1, .int x1)] [] s0 _
        exact h_wk [(0, .ref 63)] ⟨rfl, trivial⟩ (kx0 _ _ I0 J0 F0_ H0_ (by omega) (by omega) (by omega) (by omega) (by omega) (ex9) (by omega) (by omega) (Or.inr (Or.inr (Or.inl ⟨by omega, by omega, by omega, by omega, by omega, by omega⟩))) _ _ (h_al_ok ⟨rfl, trivial⟩ hlw68) hRw68)
    · show h_T g_P (g_Y ns) 62 30 [(0, .ref 63), (1, .int x1)] [] s0 _
      refine h_iload_n (pc' := 31) rfl rfl rfl ?_
      refine h_bipush (pc' := 33) (x := (Int32.ofInt 8)) rfl rfl cb_8 ?_
      refine h_cgt (tg := 53) (pc' := 36) rfl rfl rfl hx1 ci_8 (fun c69 => ?_) (fun c69 => ?_)
      · refine d_toM (g_inj ns) hl2 hR2 (fun lvw70 memw70 hlw70 hRw70 => ?_)
        show h_T g_P (g_Y ns) 152 0 [(0, .ref 98)] [] t0 _
        refine h_aload_n (pc' := 1) rfl rfl rfl ?_
        refine h_getI (pc' := 4) (v := t0 98 13) rfl rfl rfl rfl rfl rfl (fun z71 hz71 => ?_)
        have tz71 := tf_98_13 J0
        refine h_zne (tg := 167) (pc' := 7) rfl rfl rfl hz71 (fun c72 => absurd c72 (by omega)) (fun c72 => ?_)
        clear hz71
        refine h_aload_n (pc' := 8) rfl rfl rfl ?_
        refine h_getI (pc' := 11) (v := t0 98 17) rfl rfl rfl rfl rfl rfl (fun z73 hz73 => ?_)
        have tz73 := tf_98_17 J0
        refine h_iconst (pc' := 12) (x := (Int32.ofInt 2)) rfl rfl rfl ?_
        refine h_cne (tg := 167) (pc' := 15) rfl rfl rfl hz73 ci_2 (fun c74 => absurd c74 (by omega)) (fun c74 => ?_)
        clear hz73
        refine h_aload_n (pc' := 16) rfl rfl rfl ?_
        refine h_getR (pc' := 19) rfl rfl rfl rfl rfl ?_
        refine h_bipush (pc' := 21) (x := (Int32.ofInt 43)) rfl rfl cb_43 ?_
        refine h_iald (pc' := 22) (v := t0 101 43) rfl rfl rfl ci_43 (by omega) (by omega) rfl (fun z75 hz75 => ?_)
        have tz75 := ty_101_10 J0 43 (by omega)
        refine h_bipush (pc' := 24) (x := (Int32.ofInt 8)) rfl rfl cb_8 ?_
        refine h_cne (tg := 35) (pc' := 27) rfl rfl rfl hz75 ci_8 (fun c76 => ?_) (fun c76 => ?_)
        · clear hz75
          refine h_aload_n (pc' := 36) rfl rfl rfl ?_
          refine h_getI (pc' := 39) (v := t0 98 18) rfl rfl rfl rfl rfl rfl (fun z77 hz77 => ?_)
          have tz77 := tf_98_18 J0
          refine h_bipush (pc' := 41) (x := (Int32.ofInt 10)) rfl rfl cb_10 ?_
          refine h_idiv (pc' := 42) rfl rfl hz77 ci_10 (by omega) (by omega) (fun z78 hz78 => ?_)
          clear hz77
          refine h_bipush (pc' := 44) (x := (Int32.ofInt 6)) rfl rfl cb_6 ?_
          refine h_cge (tg := 58) (pc' := 47) rfl rfl rfl hz78 ci_6 (fun c79 => ?_) (fun c79 => ?_)
          · clear hz78
            refine h_aload_n (pc' := 59) rfl rfl rfl ?_
            refine h_iconst (pc' := 60) (x := (Int32.ofInt 3)) rfl rfl rfl ?_
            refine h_call (sp := false) (pc' := 63) (M := [(0, .ref 98), (1, .int (Int32.ofInt 3))]) rfl rfl rfl rfl rfl rfl rfl rfl ?_
            refine h_aload_n (pc' := 1) rfl rfl rfl ?_
            refine h_getI (pc' := 4) (v := t0 98 13) rfl rfl rfl rfl rfl rfl (fun z80 hz80 => ?_)
            refine h_zne (tg := 20) (pc' := 7) rfl rfl rfl hz80 (fun c81 => absurd c81 (by omega)) (fun c81 => ?_)
            clear hz80
            refine h_aload_n (pc' := 8) rfl rfl rfl ?_
            refine h_iload_n (pc' := 9) rfl rfl rfl ?_
            refine h_put (pc' := 12) rfl rfl rfl rfl rfl rfl ci_3 rfl (h_fgt (E := fun s => s 98 15 = t0 98 15 ∧ s 98 16 = t0 98 16 ∧ s 98 17 = t0 98 17 ∧ s 98 18 = t0 98 18 ∧ s 98 13 = 3 ∧ s 98 14 = t0 98 14 ∧ s 98 5 = t0 98 5 ∧ s 98 6 = t0 98 6 ∧ s 98 7 = t0 98 7 ∧ s 98 8 = t0 98 8 ∧ s 98 9 = t0 98 9 ∧ s 101 18 = t0 101 18 ∧ s 101 25 = t0 101 25 ∧ s 101 43 = t0 101 43 ∧ s = h_up t0 98 13 3) _ (if_98_13 J0 (by omega)) (H0_.up rfl) ⟨rfl, rfl, rfl, rfl, rfl, rfl, rfl, rfl, rfl, rfl, rfl, rfl, rfl, rfl, rfl⟩ (fun s82 Is82 Fs82 (es82 : s82 98 15 = t0 98 15 ∧ s82 98 16 = t0 98 16 ∧ s82 98 17 = t0 98 17 ∧ s82 98 18 = t0 98 18 ∧ s82 98 13 = 3 ∧ s82 98 14 = t0 98 14 ∧ s82 98 5 = t0 98 5 ∧ s82 98 6 = t0 98 6 ∧ s82 98 7 = t0 98 7 ∧ s82 98 8 = t0 98 8 ∧ s82 98 9 = t0 98 9 ∧ s82 101 18 = t0 101 18 ∧ s82 101 25 = t0 101 25 ∧ s82 101 43 = t0 101 43 ∧ s82 = h_up t0 98 13 3) => ?_))
            refine h_aload_n (pc' := 13) rfl rfl rfl ?_
            refine h_aload_n (pc' := 14) rfl rfl rfl ?_
            refine h_getI (pc' := 17) (v := t0 98 16) rfl rfl rfl rfl rfl es82.2.1 (fun z83 hz83 => ?_)
            have tz83 := tf_98_16 J0
            refine h_put (pc' := 20) rfl rfl rfl rfl rfl rfl hz83 rfl (h_fgt (E := fun s => s 98 15 = t0 98 15 ∧ s 98 16 = t0 98 16 ∧ s 98 17 = t0 98 17 ∧ s 98 18 = t0 98 18 ∧ s 98 13 = 3 ∧ s 98 14 = (t0 98 16) ∧ s 98 5 = t0 98 5 ∧ s 98 6 = t0 98 6 ∧ s 98 7 = t0 98 7 ∧ s 98 8 = t0 98 8 ∧ s 98 9 = t0 98 9 ∧ s 101 18 = t0 101 18 ∧ s 101 25 = t0 101 25 ∧ s 101 43 = t0 101 43 ∧ s = h_up s82 98 14 (t0 98 16)) _ (if_98_14 Is82 (h_rgv hz83)) (Fs82.up rfl) ⟨es82.1, es82.2.1, es82.2.2.1, es82.2.2.2.1, es82.2.2.2.2.1, rfl, es82.2.2.2.2.2.2.1, es82.2.2.2.2.2.2.2.1, es82.2.2.2.2.2.2.2.2.1, es82.2.2.2.2.2.2.2.2.2.1, es82.2.2.2.2.2.2.2.2.2.2.1, es82.2.2.2.2.2.2.2.2.2.2.2.1, es82.2.2.2.2.2.2.2.2.2.2.2.2.1, es82.2.2.2.2.2.2.2.2.2.2.2.2.2.1, rfl⟩ (fun s84 Is84 Fs84 (es84 : s84 98 15 = t0 98 15 ∧ s84 98 16 = t0 98 16 ∧ s84 98 17 = t0 98 17 ∧ s84 98 18 = t0 98 18 ∧ s84 98 13 = 3 ∧ s84 98 14 = (t0 98 16) ∧ s84 98 5 = t0 98 5 ∧ s84 98 6 = t0 98 6 ∧ s84 98 7 = t0 98 7 ∧ s84 98 8 = t0 98 8 ∧ s84 98 9 = t0 98 9 ∧ s84 101 18 = t0 101 18 ∧ s84 101 25 = t0 101 25 ∧ s84 101 43 = t0 101 43 ∧ s84 = h_up s82 98 14 (t0 98 16)) => ?_))
            refine h_vret rfl rfl (h_Kn ?_)
            refine h_goto (pc' := 0) rfl rfl ?_
            exfalso
            omega
          · clear hz78
            refine h_aload_n (pc' := 48) rfl rfl rfl ?_
            refine h_getI (pc' := 51) (v := t0 98 18) rfl rfl rfl rfl rfl rfl (fun z85 hz85 => ?_)
            refine h_bipush (pc' := 53) (x := (Int32.ofInt 10)) rfl rfl cb_10 ?_
            refine h_irem (pc' := 54) rfl rfl hz85 ci_10 (by omega) (by omega) (fun z86 hz86 => ?_)
            clear hz85
            refine h_iconst (pc' := 55) (x := (Int32.ofInt 3)) rfl rfl rfl ?_
            refine h_clt (tg := 66) (pc' := 58) rfl rfl rfl hz86 ci_3 (fun c87 => ?_) (fun c87 => ?_)
            · clear hz86
              have gH88 : 0 ≤ t0 98 18 ∧ t0 98 18 ≤ 99 := by have ga := tf_98_18 J0; omega
              have oH88 : t0 98 8 = t0 98 8 := rfl
              have vH88 : t0 98 18 = t0 98 18 := rfl
              have uH88 := tf_98_8 J0
              refine h_wk [(0, .ref 98)] ⟨rfl, trivial⟩ (lm_ho _ J0 (by omega) (fun H88 hH88 => (h_fgt (E := fun s => s 98 15 = t0 98 15 ∧ s 98 16 = t0 98 16 ∧ s 98 17 = t0 98 17 ∧ s 98 18 = t0 98 18 ∧ s 98 13 = t0 98 13 ∧ s 98 14 = t0 98 14 ∧ s 98 5 = t0 98 5 ∧ s 98 6 = t0 98 6 ∧ s 98 7 = t0 98 7 ∧ s 98 8 = H88 ∧ s 98 9 = t0 98 9 ∧ s 101 18 = t0 101 18 ∧ s 101 25 = t0 101 25 ∧ s 101 43 = t0 101 43 ∧ s = h_up t0 98 8 H88) _ (if_98_8 J0 (by omega)) (H0_.up rfl) ⟨rfl, rfl, rfl, rfl, rfl, rfl, rfl, rfl, rfl, rfl, rfl, rfl, rfl, rfl, rfl⟩ (fun s89 Is89 Fs89 (es89 : s89 98 15 = t0 98 15 ∧ s89 98 16 = t0 98 16 ∧ s89 98 17 = t0 98 17 ∧ s89 98 18 = t0 98 18 ∧ s89 98 13 = t0 98 13 ∧ s89 98 14 = t0 98 14 ∧ s89 98 5 = t0 98 5 ∧ s89 98 6 = t0 98 6 ∧ s89 98 7 = t0 98 7 ∧ s89 98 8 = H88 ∧ s89 98 9 = t0 98 9 ∧ s89 101 18 = t0 101 18 ∧ s89 101 25 = t0 101 25 ∧ s89 101 43 = t0 101 43 ∧ s89 = h_up t0 98 8 H88) => ?_))))
              have gH90 : 0 ≤ s89 98 18 ∧ s89 98 18 ≤ 99 := by have ga := es89.2.2.2.1; omega
              have oH90 : s89 98 9 = t0 98 9 := es89.2.2.2.2.2.2.2.2.2.2.1
              have vH90 : s89 98 18 = t0 98 18 := es89.2.2.2.1
              have uH90 := tf_98_9 Is89
              refine h_wk [(0, .ref 98)] ⟨rfl, trivial⟩ (lm_hg _ Is89 (by omega) (fun H90 hH90 => (h_fgt (E := fun s => s 98 15 = t0 98 15 ∧ s 98 16 = t0 98 16 ∧ s 98 17 = t0 98 17 ∧ s 98 18 = t0 98 18 ∧ s 98 13 = t0 98 13 ∧ s 98 14 = t0 98 14 ∧ s 98 5 = t0 98 5 ∧ s 98 6 = t0 98 6 ∧ s 98 7 = t0 98 7 ∧ s 98 8 = H88 ∧ s 98 9 = H90 ∧ s 101 18 = t0 101 18 ∧ s 101 25 = t0 101 25 ∧ s 101 43 = t0 101 43 ∧ s = h_up s89 98 9 H90) _ (if_98_9 Is89 (by omega)) (Fs89.up rfl) ⟨es89.1, es89.2.1, es89.2.2.1, es89.2.2.2.1, es89.2.2.2.2.1, es89.2.2.2.2.2.1, es89.2.2.2.2.2.2.1, es89.2.2.2.2.2.2.2.1, es89.2.2.2.2.2.2.2.2.1, es89.2.2.2.2.2.2.2.2.2.1, rfl, es89.2.2.2.2.2.2.2.2.2.2.2.1, es89.2.2.2.2.2.2.2.2.2.2.2.2.1, es89.2.2.2.2.2.2.2.2.2.2.2.2.2.1, rfl⟩ (fun s91 Is91 Fs91 (es91 : s91 98 15 = t0 98 15 ∧ s91 98 16 = t0 98 16 ∧ s91 98 17 = t0 98 17 ∧ s91 98 18 = t0 98 18 ∧ s91 98 13 = t0 98 13 ∧ s91 98 14 = t0 98 14 ∧ s91 98 5 = t0 98 5 ∧ s91 98 6 = t0 98 6 ∧ s91 98 7 = t0 98 7 ∧ s91 98 8 = H88 ∧ s91 98 9 = H90 ∧ s91 101 18 = t0 101 18 ∧ s91 101 25 = t0 101 25 ∧ s91 101 43 = t0 101 43 ∧ s91 = h_up s89 98 9 H90) => ?_))))
              refine h_aload_n (pc' := 131) rfl rfl rfl ?_
              refine h_getR (pc' := 134) rfl rfl rfl rfl rfl ?_
              refine h_bipush (pc' := 136) (x := (Int32.ofInt 35)) rfl rfl cb_35 ?_
              refine h_aload_n (pc' := 137) rfl rfl rfl ?_
              refine h_getR (pc' := 140) rfl rfl rfl rfl rfl ?_
              refine h_bipush (pc' := 142) (x := (Int32.ofInt 43)) rfl rfl cb_43 ?_
              refine h_iald (pc' := 143) (v := t0 101 43) rfl rfl rfl ci_43 (by omega) (by omega) es91.2.2.2.2.2.2.2.2.2.2.2.2.2.1 (fun z92 hz92 => ?_)
              refine h_iadd (pc' := 144) rfl rfl ci_35 hz92 rfl (by omega) (by omega) (fun z93 hz93 => ?_)
              clear hz92
              refine h_aload_n (pc' := 145) rfl rfl rfl ?_
              refine h_getI (pc' := 148) (v := t0 98 18) rfl rfl rfl rfl rfl es91.2.2.2.1 (fun z94 hz94 => ?_)
              refine h_iast (pc' := 149) rfl rfl rfl rfl hz93 (by omega) (by omega) hz94 (h_fgt (E := fun s => s 98 15 = t0 98 15 ∧ s 98 16 = t0 98 16 ∧ s 98 17 = t0 98 17 ∧ s 98 18 = t0 98 18 ∧ s 98 13 = t0 98 13 ∧ s 98 14 = t0 98 14 ∧ s 98 5 = t0 98 5 ∧ s 98 6 = t0 98 6 ∧ s 98 7 = t0 98 7 ∧ s 98 8 = H88 ∧ s 98 9 = H90 ∧ s 101 18 = t0 101 18 ∧ s 101 25 = t0 101 25 ∧ s 101 43 = t0 101 43 ∧ s = h_up s91 101 (35 + (t0 101 43)) (t0 98 18)) _ (ip_101_9 Is91 (by omega) (by omega)) (Fs91.up rfl) ⟨es91.1, es91.2.1, es91.2.2.1, es91.2.2.2.1, es91.2.2.2.2.1, es91.2.2.2.2.2.1, es91.2.2.2.2.2.2.1, es91.2.2.2.2.2.2.2.1, es91.2.2.2.2.2.2.2.2.1, es91.2.2.2.2.2.2.2.2.2.1, es91.2.2.2.2.2.2.2.2.2.2.1, h_up_n2 (by omega) es91.2.2.2.2.2.2.2.2.2.2.2.1, h_up_n2 (by omega) es91.2.2.2.2.2.2.2.2.2.2.2.2.1, h_up_n2 (by omega) es91.2.2.2.2.2.2.2.2.2.2.2.2.2.1, rfl⟩ (fun s95 Is95 Fs95 (es95 : s95 98 15 = t0 98 15 ∧ s95 98 16 = t0 98 16 ∧ s95 98 17 = t0 98 17 ∧ s95 98 18 = t0 98 18 ∧ s95 98 13 = t0 98 13 ∧ s95 98 14 = t0 98 14 ∧ s95 98 5 = t0 98 5 ∧ s95 98 6 = t0 98 6 ∧ s95 98 7 = t0 98 7 ∧ s95 98 8 = H88 ∧ s95 98 9 = H90 ∧ s95 101 18 = t0 101 18 ∧ s95 101 25 = t0 101 25 ∧ s95 101 43 = t0 101 43 ∧ s95 = h_up s91 101 (35 + (t0 101 43)) (t0 98 18)) => ?_))
              clear hz93 hz94
              refine h_aload_n (pc' := 150) rfl rfl rfl ?_
              refine h_getR (pc' := 153) rfl rfl rfl rfl rfl ?_
              refine h_bipush (pc' := 155) (x := (Int32.ofInt 43)) rfl rfl cb_43 ?_
              refine h_dup2 (pc' := 156) rfl rfl rfl ?_
              refine h_iald (pc' := 157) (v := t0 101 43) rfl rfl rfl ci_43 (by omega) (by omega) es95.2.2.2.2.2.2.2.2.2.2.2.2.2.1 (fun z96 hz96 => ?_)
              refine h_iconst (pc' := 158) (x := (Int32.ofInt 1)) rfl rfl rfl ?_
              refine h_iadd (pc' := 159) rfl rfl hz96 ci_1 rfl (by omega) (by omega) (fun z97 hz97 => ?_)
              clear hz96
              refine h_iast (pc' := 160) rfl rfl rfl rfl ci_43 (by omega) (by omega) hz97 (h_fgt (E := fun s => s 98 15 = t0 98 15 ∧ s 98 16 = t0 98 16 ∧ s 98 17 = t0 98 17 ∧ s 98 18 = t0 98 18 ∧ s 98 13 = t0 98 13 ∧ s 98 14 = t0 98 14 ∧ s 98 5 = t0 98 5 ∧ s 98 6 = t0 98 6 ∧ s 98 7 = t0 98 7 ∧ s 98 8 = H88 ∧ s 98 9 = H90 ∧ s 101 18 = t0 101 18 ∧ s 101 25 = t0 101 25 ∧ s 101 43 = ((t0 101 43) + 1) ∧ s = h_up s95 101 43 ((t0 101 43) + 1)) _ (ip_101_10 Is95 (by omega) (by omega)) (Fs95.up rfl) ⟨es95.1, es95.2.1, es95.2.2.1, es95.2.2.2.1, es95.2.2.2.2.1, es95.2.2.2.2.2.1, es95.2.2.2.2.2.2.1, es95.2.2.2.2.2.2.2.1, es95.2.2.2.2.2.2.2.2.1, es95.2.2.2.2.2.2.2.2.2.1, es95.2.2.2.2.2.2.2.2.2.2.1, es95.2.2.2.2.2.2.2.2.2.2.2.1, es95.2.2.2.2.2.2.2.2.2.2.2.2.1, rfl, rfl⟩ (fun s98 Is98 Fs98 (es98 : s98 98 15 = t0 98 15 ∧ s98 98 16 = t0 98 16 ∧ s98 98 17 = t0 98 17 ∧ s98 98 18 = t0 98 18 ∧ s98 98 13 = t0 98 13 ∧ s98 98 14 = t0 98 14 ∧ s98 98 5 = t0 98 5 ∧ s98 98 6 = t0 98 6 ∧ s98 98 7 = t0 98 7 ∧ s98 98 8 = H88 ∧ s98 98 9 = H90 ∧ s98 101 18 = t0 101 18 ∧ s98 101 25 = t0 101 25 ∧ s98 101 43 = ((t0 101 43) + 1) ∧ s98 = h_up s95 101 43 ((t0 101 43) + 1)) => ?_))
              refine h_aload_n (pc' := 161) rfl rfl rfl ?_
              exfalso
              omega
            · clear hz86
              refine h_aload_n (pc' := 59) rfl rfl rfl ?_
              refine h_iconst (pc' := 60) (x := (Int32.ofInt 3)) rfl rfl rfl ?_
              refine h_call (sp := false) (pc' := 63) (M := [(0, .ref 98), (1, .int (Int32.ofInt 3))]) rfl rfl rfl rfl rfl rfl rfl rfl ?_
              refine h_aload_n (pc' := 1) rfl rfl rfl ?_
              refine h_getI (pc' := 4) (v := t0 98 13) rfl rfl rfl rfl rfl rfl (fun z99 hz99 => ?_)
              refine h_zne (tg := 20) (pc' := 7) rfl rfl rfl hz99 (fun c100 => absurd c100 (by omega)) (fun c100 => ?_)
              clear hz99
              refine h_aload_n (pc' := 8) rfl rfl rfl ?_
              refine h_iload_n (pc' := 9) rfl rfl rfl ?_
              refine h_put (pc' := 12) rfl rfl rfl rfl rfl rfl ci_3 rfl (h_fgt (E := fun s => s 98 15 = t0 98 15 ∧ s 98 16 = t0 98 16 ∧ s 98 17 = t0 98 17 ∧ s 98 18 = t0 98 18 ∧ s 98 13 = 3 ∧ s 98 14 = t0 98 14 ∧ s 98 5 = t0 98 5 ∧ s 98 6 = t0 98 6 ∧ s 98 7 = t0 98 7 ∧ s 98 8 = t0 98 8 ∧ s 98 9 = t0 98 9 ∧ s 101 18 = t0 101 18 ∧ s 101 25 = t0 101 25 ∧ s 101 43 = t0 101 43 ∧ s = h_up t0 98 13 3) _ (if_98_13 J0 (by omega)) (H0_.up rfl) ⟨rfl, rfl, rfl, rfl, rfl, rfl, rfl, rfl, rfl, rfl, rfl, rfl, rfl, rfl, rfl⟩ (fun s101 Is101 Fs101 (es101 : s101 98 15 = t0 98 15 ∧ s101 98 16 = t0 98 16 ∧ s101 98 17 = t0 98 17 ∧ s101 98 18 = t0 98 18 ∧ s101 98 13 = 3 ∧ s101 98 14 = t0 98 14 ∧ s101 98 5 = t0 98 5 ∧ s101 98 6 = t0 98 6 ∧ s101 98 7 = t0 98 7 ∧ s101 98 8 = t0 98 8 ∧ s101 98 9 = t0 98 9 ∧ s101 101 18 = t0 101 18 ∧ s101 101 25 = t0 101 25 ∧ s101 101 43 = t0 101 43 ∧ s101 = h_up t0 98 13 3) => ?_))
              refine h_aload_n (pc' := 13) rfl rfl rfl ?_
              refine h_aload_n (pc' := 14) rfl rfl rfl ?_
              refine h_getI (pc' := 17) (v := t0 98 16) rfl rfl rfl rfl rfl es101.2.1 (fun z102 hz102 => ?_)
              have tz102 := tf_98_16 J0
              refine h_put (pc' := 20) rfl rfl rfl rfl rfl rfl hz102 rfl (h_fgt (E := fun s => s 98 15 = t0 98 15 ∧ s 98 16 = t0 98 16 ∧ s 98 17 = t0 98 17 ∧ s 98 18 = t0 98 18 ∧ s 98 13 = 3 ∧ s 98 14 = (t0 98 16) ∧ s 98 5 = t0 98 5 ∧ s 98 6 = t0 98 6 ∧ s 98 7 = t0 98 7 ∧ s 98 8 = t0 98 8 ∧ s 98 9 = t0 98 9 ∧ s 101 18 = t0 101 18 ∧ s 101 25 = t0 101 25 ∧ s 101 43 = t0 101 43 ∧ s = h_up s101 98 14 (t0 98 16)) _ (if_98_14 Is101 (h_rgv hz102)) (Fs101.up rfl) ⟨es101.1, es101.2.1, es101.2.2.1, es101.2.2.2.1, es101.2.2.2.2.1, rfl, es101.2.2.2.2.2.2.1, es101.2.2.2.2.2.2.2.1, es101.2.2.2.2.2.2.2.2.1, es101.2.2.2.2.2.2.2.2.2.1, es101.2.2.2.2.2.2.2.2.2.2.1, es101.2.2.2.2.2.2.2.2.2.2.2.1, es101.2.2.2.2.2.2.2.2.2.2.2.2.1, es101.2.2.2.2.2.2.2.2.2.2.2.2.2.1, rfl⟩ (fun s103 Is103 Fs103 (es103 : s103 98 15 = t0 98 15 ∧ s103 98 16 = t0 98 16 ∧ s103 98 17 = t0 98 17 ∧ s103 98 18 = t0 98 18 ∧ s103 98 13 = 3 ∧ s103 98 14 = (t0 98 16) ∧ s103 98 5 = t0 98 5 ∧ s103 98 6 = t0 98 6 ∧ s103 98 7 = t0 98 7 ∧ s103 98 8 = t0 98 8 ∧ s103 98 9 = t0 98 9 ∧ s103 101 18 = t0 101 18 ∧ s103 101 25 = t0 101 25 ∧ s103 101 43 = t0 101 43 ∧ s103 = h_up s101 98 14 (t0 98 16)) => ?_))
              refine h_vret rfl rfl (h_Kn ?_)
              refine h_goto (pc' := 0) rfl rfl ?_
              exfalso
              omega
        · clear hz75
          refine h_aload_n (pc' := 28) rfl rfl rfl ?_
          refine h_iconst (pc' := 29) (x := (Int32.ofInt 5)) rfl rfl rfl ?_
          refine h_call (sp := false) (pc' := 32) (M := [(0, .ref 98), (1, .int (Int32.ofInt 5))]) rfl rfl rfl rfl rfl rfl rfl rfl ?_
          refine h_aload_n (pc' := 1) rfl rfl rfl ?_
          refine h_getI (pc' := 4) (v := t0 98 13) rfl rfl rfl rfl rfl rfl (fun z104 hz104 => ?_)
          refine h_zne (tg := 20) (pc' := 7) rfl rfl rfl hz104 (fun c105 => absurd c105 (by omega)) (fun c105 => ?_)
          clear hz104
          refine h_aload_n (pc' := 8) rfl rfl rfl ?_
          refine h_iload_n (pc' := 9) rfl rfl rfl ?_
          refine h_put (pc' := 12) rfl rfl rfl rfl rfl rfl ci_5 rfl (h_fgt (E := fun s => s 98 15 = t0 98 15 ∧ s 98 16 = t0 98 16 ∧ s 98 17 = t0 98 17 ∧ s 98 18 = t0 98 18 ∧ s 98 13 = 5 ∧ s 98 14 = t0 98 14 ∧ s 98 5 = t0 98 5 ∧ s 98 6 = t0 98 6 ∧ s 98 7 = t0 98 7 ∧ s 98 8 = t0 98 8 ∧ s 98 9 = t0 98 9 ∧ s 101 18 = t0 101 18 ∧ s 101 25 = t0 101 25 ∧ s 101 43 = t0 101 43 ∧ s = h_up t0 98 13 5) _ (if_98_13 J0 (by omega)) (H0_.up rfl) ⟨rfl, rfl, rfl, rfl, rfl, rfl, rfl, rfl, rfl, rfl, rfl, rfl, rfl, rfl, rfl⟩ (fun s106 Is106 Fs106 (es106 : s106 98 15 = t0 98 15 ∧ s106 98 16 = t0 98 16 ∧ s106 98 17 = t0 98 17 ∧ s106 98 18 = t0 98 18 ∧ s106 98 13 = 5 ∧ s106 98 14 = t0 98 14 ∧ s106 98 5 = t0 98 5 ∧ s106 98 6 = t0 98 6 ∧ s106 98 7 = t0 98 7 ∧ s106 98 8 = t0 98 8 ∧ s106 98 9 = t0 98 9 ∧ s106 101 18 = t0 101 18 ∧ s106 101 25 = t0 101 25 ∧ s106 101 43 = t0 101 43 ∧ s106 = h_up t0 98 13 5) => ?_))
          refine h_aload_n (pc' := 13) rfl rfl rfl ?_
          refine h_aload_n (pc' := 14) rfl rfl rfl ?_
          refine h_getI (pc' := 17) (v := t0 98 16) rfl rfl rfl rfl rfl es106.2.1 (fun z107 hz107 => ?_)
          have tz107 := tf_98_16 J0
          refine h_put (pc' := 20) rfl rfl rfl rfl rfl rfl hz107 rfl (h_fgt (E := fun s => s 98 15 = t0 98 15 ∧ s 98 16 = t0 98 16 ∧ s 98 17 = t0 98 17 ∧ s 98 18 = t0 98 18 ∧ s 98 13 = 5 ∧ s 98 14 = (t0 98 16) ∧ s 98 5 = t0 98 5 ∧ s 98 6 = t0 98 6 ∧ s 98 7 = t0 98 7 ∧ s 98 8 = t0 98 8 ∧ s 98 9 = t0 98 9 ∧ s 101 18 = t0 101 18 ∧ s 101 25 = t0 101 25 ∧ s 101 43 = t0 101 43 ∧ s = h_up s106 98 14 (t0 98 16)) _ (if_98_14 Is106 (h_rgv hz107)) (Fs106.up rfl) ⟨es106.1, es106.2.1, es106.2.2.1, es106.2.2.2.1, es106.2.2.2.2.1, rfl, es106.2.2.2.2.2.2.1, es106.2.2.2.2.2.2.2.1, es106.2.2.2.2.2.2.2.2.1, es106.2.2.2.2.2.2.2.2.2.1, es106.2.2.2.2.2.2.2.2.2.2.1, es106.2.2.2.2.2.2.2.2.2.2.2.1, es106.2.2.2.2.2.2.2.2.2.2.2.2.1, es106.2.2.2.2.2.2.2.2.2.2.2.2.2.1, rfl⟩ (fun s108 Is108 Fs108 (es108 : s108 98 15 = t0 98 15 ∧ s108 98 16 = t0 98 16 ∧ s108 98 17 = t0 98 17 ∧ s108 98 18 = t0 98 18 ∧ s108 98 13 = 5 ∧ s108 98 14 = (t0 98 16) ∧ s108 98 5 = t0 98 5 ∧ s108 98 6 = t0 98 6 ∧ s108 98 7 = t0 98 7 ∧ s108 98 8 = t0 98 8 ∧ s108 98 9 = t0 98 9 ∧ s108 101 18 = t0 101 18 ∧ s108 101 25 = t0 101 25 ∧ s108 101 43 = t0 101 43 ∧ s108 = h_up s106 98 14 (t0 98 16)) => ?_))
          refine h_vret rfl rfl (h_Kn ?_)
          refine h_goto (pc' := 0) rfl rfl ?_
          exfalso
          omega
      · refine h_aload_n (pc' := 37) rfl rfl rfl ?_
        refine h_call (sp := false) (pc' := 40) (M := [(0, .ref 63)]) rfl rfl rfl rfl rfl rfl rfl rfl ?_
        refine h_aload_n (pc' := 1) rfl rfl rfl ?_
        refine h_getI (pc' := 4) (v := s0 63 2) rfl rfl rfl rfl rfl rfl (fun z109 hz109 => ?_)
        have tz109 := tf_63_2 I0
        refine h_zne (tg := 22) (pc' := 7) rfl rfl rfl hz109 (fun c110 => absurd c110 (by omega)) (fun c110 => ?_)
        clear hz109
        refine h_aload_n (pc' := 8) rfl rfl rfl ?_
        refine h_getR (pc' := 11) rfl rfl rfl rfl rfl ?_
        refine h_getI (pc' := 14) (v := s0 64 3) rfl rfl rfl rfl rfl rfl (fun z111 hz111 => ?_)
        have tz111 := tf_64_3 I0
        refine h_iconst (pc' := 15) (x := (Int32.ofInt 2)) rfl rfl rfl ?_
        refine h_cne (tg := 22) (pc' := 18) rfl rfl rfl hz111 ci_2 (fun c112 => absurd c112 (by omega)) (fun c112 => ?_)
        clear hz111
        refine h_iconst (pc' := 19) (x := (Int32.ofInt 1)) rfl rfl rfl ?_
        refine h_goto (pc' := 23) rfl rfl ?_
        refine h_zret rfl rfl ci_1 (by omega) (h_Kv ?_)
        refine h_zeq (tg := 53) (pc' := 43) rfl rfl rfl ci_1 (fun c113 => absurd c113 (by omega)) (fun c113 => ?_)
        refine h_aload_n (pc' := 44) rfl rfl rfl ?_
        refine d_call (g_inj ns) (pc' := 47) (m := 63) (M := [(0, .ref 63)]) (rest := []) ⟨false, _, _, _, _, _, _, rfl, rfl, rfl, rfl, rfl, rfl, rfl⟩ (fun lv114 hlv114 => ?_)
        refine h_aload_n (pc' := 1) rfl rfl rfl ?_
        refine h_getR (pc' := 4) rfl rfl rfl rfl rfl ?_
        refine h_getI (pc' := 7) (v := s0 64 5) rfl rfl rfl rfl rfl rfl (fun z115 hz115 => ?_)
        have tz115 := tf_64_5 I0
        refine h_istore_n (pc' := 8) (M := [(1, .int z115), (0, .ref 63)]) rfl rfl rfl rfl ?_
        refine h_aload_n (pc' := 9) rfl rfl rfl ?_
        refine h_getR (pc' := 12) rfl rfl rfl rfl rfl ?_
        refine h_getI (pc' := 15) (v := s0 66 10) rfl rfl rfl rfl rfl rfl (fun z116 hz116 => ?_)
        have tz116 := tf_66_10 I0
        refine h_bipush (pc' := 17) (x := (Int32.ofInt 8)) rfl rfl cb_8 ?_
        refine h_clt (tg := 35) (pc' := 20) rfl rfl rfl hz116 ci_8 (fun c117 => ?_) (fun c117 => ?_)
        · clear hz116
          refine h_iload_n (pc' := 36) rfl rfl rfl ?_
          refine h_bipush (pc' := 38) (x := (Int32.ofInt 10)) rfl rfl cb_10 ?_
          refine h_idiv (pc' := 39) rfl rfl hz115 ci_10 (by omega) (by omega) (fun z118 hz118 => ?_)
          refine h_bipush (pc' := 41) (x := (Int32.ofInt 6)) rfl rfl cb_6 ?_
          refine h_cge (tg := 52) (pc' := 44) rfl rfl rfl hz118 ci_6 (fun c119 => ?_) (fun c119 => ?_)
          · clear hz118
            refine h_aload_n (pc' := 53) rfl rfl rfl ?_
            refine h_iconst (pc' := 54) (x := (Int32.ofInt 3)) rfl rfl rfl ?_
            refine h_aload_n (pc' := 55) rfl rfl rfl ?_
            refine h_getR (pc' := 58) rfl rfl rfl rfl rfl ?_
            refine h_getI (pc' := 61) (v := s0 64 4) rfl rfl rfl rfl rfl rfl (fun z120 hz120 => ?_)
            have tz120 := tf_64_4 I0
            refine h_call (sp := false) (pc' := 64) (M := [(0, .ref 63), (1, .int (Int32.ofInt 3)), (2, .int z120)]) rfl rfl rfl rfl rfl rfl rfl rfl ?_
            refine h_aload_n (pc' := 1) rfl rfl rfl ?_
            refine h_getI (pc' := 4) (v := s0 63 2) rfl rfl rfl rfl rfl rfl (fun z121 hz121 => ?_)
            refine h_zne (tg := 17) (pc' := 7) rfl rfl rfl hz121 (fun c122 => absurd c122 (by omega)) (fun c122 => ?_)
            clear hz121
            refine h_aload_n (pc' := 8) rfl rfl rfl ?_
            refine h_iload_n (pc' := 9) rfl rfl rfl ?_
            refine h_put (pc' := 12) rfl rfl rfl rfl rfl rfl ci_3 rfl (h_fgt (E := fun s => s 64 2 = s0 64 2 ∧ s 64 4 = s0 64 4 ∧ s 64 3 = s0 64 3 ∧ s 64 5 = s0 64 5 ∧ s 63 2 = 3 ∧ s 63 3 = s0 63 3 ∧ s 64 1 = s0 64 1 ∧ s 66 8 = s0 66 8 ∧ s 66 9 = s0 66 9 ∧ s 66 10 = s0 66 10 ∧ s 69 2 = s0 69 2 ∧ s 72 2 = s0 72 2 ∧ s 63 5 = s0 63 5 ∧ s = h_up s0 63 2 3) _ (if_63_2 I0 (by omega)) (F0_.up rfl) ⟨rfl, rfl, rfl, rfl, rfl, rfl, rfl, rfl, rfl, rfl, rfl, rfl, rfl, rfl⟩ (fun s123 Is123 Fs123 (es123 : s123 64 2 = s0 64 2 ∧ s123 64 4 = s0 64 4 ∧ s123 64 3 = s0 64 3 ∧ s123 64 5 = s0 64 5 ∧ s123 63 2 = 3 ∧ s123 63 3 = s0 63 3 ∧ s123 64 1 = s0 64 1 ∧ s123 66 8 = s0 66 8 ∧ s123 66 9 = s0 66 9 ∧ s123 66 10 = s0 66 10 ∧ s123 69 2 = s0 69 2 ∧ s123 72 2 = s0 72 2 ∧ s123 63 5 = s0 63 5 ∧ s123 = h_up s0 63 2 3) => ?_))
            refine h_aload_n (pc' := 13) rfl rfl rfl ?_
            refine h_iload_n (pc' := 14) rfl rfl rfl ?_
            refine h_put (pc' := 17) rfl rfl rfl rfl rfl rfl hz120 rfl (h_fgt (E := fun s => s 64 2 = s0 64 2 ∧ s 64 4 = s0 64 4 ∧ s 64 3 = s0 64 3 ∧ s 64 5 = s0 64 5 ∧ s 63 2 = 3 ∧ s 63 3 = (s0 64 4) ∧ s 64 1 = s0 64 1 ∧ s 66 8 = s0 66 8 ∧ s 66 9 = s0 66 9 ∧ s 66 10 = s0 66 10 ∧ s 69 2 = s0 69 2 ∧ s 72 2 = s0 72 2 ∧ s 63 5 = s0 63 5 ∧ s = h_up s123 63 3 (s0 64 4)) _ (if_63_3 Is123 (h_rgv hz120)) (Fs123.up rfl) ⟨es123.1, es123.2.1, es123.2.2.1, es123.2.2.2.1, es123.2.2.2.2.1, rfl, es123.2.2.2.2.2.2.1, es123.2.2.2.2.2.2.2.1, es123.2.2.2.2.2.2.2.2.1, es123.2.2.2.2.2.2.2.2.2.1, es123.2.2.2.2.2.2.2.2.2.2.1, es123.2.2.2.2.2.2.2.2.2.2.2.1, es123.2.2.2.2.2.2.2.2.2.2.2.2.1, rfl⟩ (fun s124 Is124 Fs124 (es124 : s124 64 2 = s0 64 2 ∧ s124 64 4 = s0 64 4 ∧ s124 64 3 = s0 64 3 ∧ s124 64 5 = s0 64 5 ∧ s124 63 2 = 3 ∧ s124 63 3 = (s0 64 4) ∧ s124 64 1 = s0 64 1 ∧ s124 66 8 = s0 66 8 ∧ s124 66 9 = s0 66 9 ∧ s124 66 10 = s0 66 10 ∧ s124 69 2 = s0 69 2 ∧ s124 72 2 = s0 72 2 ∧ s124 63 5 = s0 63 5 ∧ s124 = h_up s123 63 3 (s0 64 4)) => ?_))
            refine h_vret rfl rfl (h_Kn ?_)
            refine h_goto (pc' := 79) rfl rfl ?_
            refine h_vret rfl rfl (d_retn hlv114 ?_)
            clear hz115
            refine h_iinc (pc' := 50) (M := fun z125 => [(1, .int z125), (0, .ref 63)]) rfl rfl rfl rfl hx1 ci_1 rfl (by omega) (by omega) (fun _ => rfl) (fun z125 hz125 => ?_)
            refine h_goto (pc' := 30) rfl rfl ?_
            refine d_toM (g_inj ns) hl2 hR2 (fun lvw126 memw126 hlw126 hRw126 => ?_)
            show h_T g_P (g_Y ns) 152 0 [(0, .ref 98)] [] t0 _
            refine h_aload_n (pc' := 1) rfl rfl rfl ?_
            refine h_getI (pc' := 4) (v := t0 98 13) rfl rfl rfl rfl rfl rfl (fun z127 hz127 => ?_)
            have tz127 := tf_98_13 J0
            refine h_zne (tg := 167) (pc' := 7) rfl rfl rfl hz127 (fun c128 => absurd c128 (by omega)) (fun c128 => ?_)
            clear hz127
            refine h_aload_n (pc' := 8) rfl rfl rfl ?_
            refine h_getI (pc' := 11) (v := t0 98 17) rfl rfl rfl rfl rfl rfl (fun z129 hz129 => ?_)
            have tz129 := tf_98_17 J0
            refine h_iconst (pc' := 12) (x := (Int32.ofInt 2)) rfl rfl rfl ?_
            refine h_cne (tg := 167) (pc' := 15) rfl rfl rfl hz129 ci_2 (fun c130 => absurd c130 (by omega)) (fun c130 => ?_)
            clear hz129
            refine h_aload_n (pc' := 16) rfl rfl rfl ?_
            refine h_getR (pc' := 19) rfl rfl rfl rfl rfl ?_
            refine h_bipush (pc' := 21) (x := (Int32.ofInt 43)) rfl rfl cb_43 ?_
            refine h_iald (pc' := 22) (v := t0 101 43) rfl rfl rfl ci_43 (by omega) (by omega) rfl (fun z131 hz131 => ?_)
            have tz131 := ty_101_10 J0 43 (by omega)
            refine h_bipush (pc' := 24) (x := (Int32.ofInt 8)) rfl rfl cb_8 ?_
            refine h_cne (tg := 35) (pc' := 27) rfl rfl rfl hz131 ci_8 (fun c132 => ?_) (fun c132 => ?_)
            · clear hz131
              refine h_aload_n (pc' := 36) rfl rfl rfl ?_
              refine h_getI (pc' := 39) (v := t0 98 18) rfl rfl rfl rfl rfl rfl (fun z133 hz133 => ?_)
              have tz133 := tf_98_18 J0
              refine h_bipush (pc' := 41) (x := (Int32.ofInt 10)) rfl rfl cb_10 ?_
              refine h_idiv (pc' := 42) rfl rfl hz133 ci_10 (by omega) (by omega) (fun z134 hz134 => ?_)
              clear hz133
              refine h_bipush (pc' := 44) (x := (Int32.ofInt 6)) rfl rfl cb_6 ?_
              refine h_cge (tg := 58) (pc' := 47) rfl rfl rfl hz134 ci_6 (fun c135 => ?_) (fun c135 => ?_)
              · clear hz134
                refine h_aload_n (pc' := 59) rfl rfl rfl ?_
                refine h_iconst (pc' := 60) (x := (Int32.ofInt 3)) rfl rfl rfl ?_
                refine h_call (sp := false) (pc' := 63) (M := [(0, .ref 98), (1, .int (Int32.ofInt 3))]) rfl rfl rfl rfl rfl rfl rfl rfl ?_
                refine h_aload_n (pc' := 1) rfl rfl rfl ?_
                refine h_getI (pc' := 4) (v := t0 98 13) rfl rfl rfl rfl rfl rfl (fun z136 hz136 => ?_)
                refine h_zne (tg := 20) (pc' := 7) rfl rfl rfl hz136 (fun c137 => absurd c137 (by omega)) (fun c137 => ?_)
                clear hz136
                refine h_aload_n (pc' := 8) rfl rfl rfl ?_
                refine h_iload_n (pc' := 9) rfl rfl rfl ?_
                refine h_put (pc' := 12) rfl rfl rfl rfl rfl rfl ci_3 rfl (h_fgt (E := fun s => s 98 15 = t0 98 15 ∧ s 98 16 = t0 98 16 ∧ s 98 17 = t0 98 17 ∧ s 98 18 = t0 98 18 ∧ s 98 13 = 3 ∧ s 98 14 = t0 98 14 ∧ s 98 5 = t0 98 5 ∧ s 98 6 = t0 98 6 ∧ s 98 7 = t0 98 7 ∧ s 98 8 = t0 98 8 ∧ s 98 9 = t0 98 9 ∧ s 101 18 = t0 101 18 ∧ s 101 25 = t0 101 25 ∧ s 101 43 = t0 101 43 ∧ s = h_up t0 98 13 3) _ (if_98_13 J0 (by omega)) (H0_.up rfl) ⟨rfl, rfl, rfl, rfl, rfl, rfl, rfl, rfl, rfl, rfl, rfl, rfl, rfl, rfl, rfl⟩ (fun s138 Is138 Fs138 (es138 : s138 98 15 = t0 98 15 ∧ s138 98 16 = t0 98 16 ∧ s138 98 17 = t0 98 17 ∧ s138 98 18 = t0 98 18 ∧ s138 98 13 = 3 ∧ s138 98 14 = t0 98 14 ∧ s138 98 5 = t0 98 5 ∧ s138 98 6 = t0 98 6 ∧ s138 98 7 = t0 98 7 ∧ s138 98 8 = t0 98 8 ∧ s138 98 9 = t0 98 9 ∧ s138 101 18 = t0 101 18 ∧ s138 101 25 = t0 101 25 ∧ s138 101 43 = t0 101 43 ∧ s138 = h_up t0 98 13 3) => ?_))
                refine h_aload_n (pc' := 13) rfl rfl rfl ?_
                refine h_aload_n (pc' := 14) rfl rfl rfl ?_
                refine h_getI (pc' := 17) (v := t0 98 16) rfl rfl rfl rfl rfl es138.2.1 (fun z139 hz139 => ?_)
                have tz139 := tf_98_16 J0
                refine h_put (pc' := 20) rfl rfl rfl rfl rfl rfl hz139 rfl (h_fgt (E := fun s => s 98 15 = t0 98 15 ∧ s 98 16 = t0 98 16 ∧ s 98 17 = t0 98 17 ∧ s 98 18 = t0 98 18 ∧ s 98 13 = 3 ∧ s 98 14 = (t0 98 16) ∧ s 98 5 = t0 98 5 ∧ s 98 6 = t0 98 6 ∧ s 98 7 = t0 98 7 ∧ s 98 8 = t0 98 8 ∧ s 98 9 = t0 98 9 ∧ s 101 18 = t0 101 18 ∧ s 101 25 = t0 101 25 ∧ s 101 43 = t0 101 43 ∧ s = h_up s138 98 14 (t0 98 16)) _ (if_98_14 Is138 (h_rgv hz139)) (Fs138.up rfl) ⟨es138.1, es138.2.1, es138.2.2.1, es138.2.2.2.1, es138.2.2.2.2.1, rfl, es138.2.2.2.2.2.2.1, es138.2.2.2.2.2.2.2.1, es138.2.2.2.2.2.2.2.2.1, es138.2.2.2.2.2.2.2.2.2.1, es138.2.2.2.2.2.2.2.2.2.2.1, es138.2.2.2.2.2.2.2.2.2.2.2.1, es138.2.2.2.2.2.2.2.2.2.2.2.2.1, es138.2.2.2.2.2.2.2.2.2.2.2.2.2.1, rfl⟩ (fun s140 Is140 Fs140 (es140 : s140 98 15 = t0 98 15 ∧ s140 98 16 = t0 98 16 ∧ s140 98 17 = t0 98 17 ∧ s140 98 18 = t0 98 18 ∧ s140 98 13 = 3 ∧ s140 98 14 = (t0 98 16) ∧ s140 98 5 = t0 98 5 ∧ s140 98 6 = t0 98 6 ∧ s140 98 7 = t0 98 7 ∧ s140 98 8 = t0 98 8 ∧ s140 98 9 = t0 98 9 ∧ s140 101 18 = t0 101 18 ∧ s140 101 25 = t0 101 25 ∧ s140 101 43 = t0 101 43 ∧ s140 = h_up s138 98 14 (t0 98 16)) => ?_))
                refine h_vret rfl rfl (h_Kn ?_)
                refine h_goto (pc' := 0) rfl rfl ?_
                refine d_toL (g_inj ns) hlw126 hRw126 (fun lvw141 memw141 hlw141 hRw141 => ?_)
                show h_T g_P (g_Y ns) 62 30 [(1, .int z125), (0, .ref 63)] [] s124 _
                exact h_wk [(0, .ref 63), (1, .int z125)] ⟨rfl, rfl, trivial⟩ (ih _ _ Is124 Is140 Fs124 Fs140 z125 _ hz125  (by omega) (by omega) (by omega) (by omega) (by omega) (by omega) (by omega) (by omega) (by omega) (fun h => absurd h (by omega)) (Or.inl ⟨by omega, by omega, by omega, by omega⟩) (by omega) _ _ (h_al_ok ⟨rfl, trivial⟩ hlw141) hRw141)
              · clear hz134
                refine h_aload_n (pc' := 48) rfl rfl rfl ?_
                refine h_getI (pc' := 51) (v := t0 98 18) rfl rfl rfl rfl rfl rfl (fun z142 hz142 => ?_)
                refine h_bipush (pc' := 53) (x := (Int32.ofInt 10)) rfl rfl cb_10 ?_
                refine h_irem (pc' := 54) rfl rfl hz142 ci_10 (by omega) (by omega) (fun z143 hz143 => ?_)
                clear hz142
                refine h_iconst (pc' := 55) (x := (Int32.ofInt 3)) rfl rfl rfl ?_
                refine h_clt (tg := 66) (pc' := 58) rfl rfl rfl hz143 ci_3 (fun c144 => ?_) (fun c144 => ?_)
                · clear hz143
                  have gH145 : 0 ≤ t0 98 18 ∧ t0 98 18 ≤ 99 := by have ga := tf_98_18 J0; omega
                  have oH145 : t0 98 8 = t0 98 8 := rfl
                  have vH145 : t0 98 18 = t0 98 18 := rfl
                  have uH145 := tf_98_8 J0
                  refine h_wk [(0, .ref 98)] ⟨rfl, trivial⟩ (lm_ho _ J0 (by omega) (fun H145 hH145 => (h_fgt (E := fun s => s 98 15 = t0 98 15 ∧ s 98 16 = t0 98 16 ∧ s 98 17 = t0 98 17 ∧ s 98 18 = t0 98 18 ∧ s 98 13 = t0 98 13 ∧ s 98 14 = t0 98 14 ∧ s 98 5 = t0 98 5 ∧ s 98 6 = t0 98 6 ∧ s 98 7 = t0 98 7 ∧ s 98 8 = H145 ∧ s 98 9 = t0 98 9 ∧ s 101 18 = t0 101 18 ∧ s 101 25 = t0 101 25 ∧ s 101 43 = t0 101 43 ∧ s = h_up t0 98 8 H145) _ (if_98_8 J0 (by omega)) (H0_.up rfl) ⟨rfl, rfl, rfl, rfl, rfl, rfl, rfl, rfl, rfl, rfl, rfl, rfl, rfl, rfl, rfl⟩ (fun s146 Is146 Fs146 (es146 : s146 98 15 = t0 98 15 ∧ s146 98 16 = t0 98 16 ∧ s146 98 17 = t0 98 17 ∧ s146 98 18 = t0 98 18 ∧ s146 98 13 = t0 98 13 ∧ s146 98 14 = t0 98 14 ∧ s146 98 5 = t0 98 5 ∧ s146 98 6 = t0 98 6 ∧ s146 98 7 = t0 98 7 ∧ s146 98 8 = H145 ∧ s146 98 9 = t0 98 9 ∧ s146 101 18 = t0 101 18 ∧ s146 101 25 = t0 101 25 ∧ s146 101 43 = t0 101 43 ∧ s146 = h_up t0 98 8 H145) => ?_))))
                  have gH147 : 0 ≤ s146 98 18 ∧ s146 98 18 ≤ 99 := by have ga := es146.2.2.2.1; omega
                  have oH147 : s146 98 9 = t0 98 9 := es146.2.2.2.2.2.2.2.2.2.2.1
                  have vH147 : s146 98 18 = t0 98 18 := es146.2.2.2.1
                  have uH147 := tf_98_9 Is146
                  refine h_wk [(0, .ref 98)] ⟨rfl, trivial⟩ (lm_hg _ Is146 (by omega) (fun H147 hH147 => (h_fgt (E := fun s => s 98 15 = t0 98 15 ∧ s 98 16 = t0 98 16 ∧ s 98 17 = t0 98 17 ∧ s 98 18 = t0 98 18 ∧ s 98 13 = t0 98 13 ∧ s 98 14 = t0 98 14 ∧ s 98 5 = t0 98 5 ∧ s 98 6 = t0 98 6 ∧ s 98 7 = t0 98 7 ∧ s 98 8 = H145 ∧ s 98 9 = H147 ∧ s 101 18 = t0 101 18 ∧ s 101 25 = t0 101 25 ∧ s 101 43 = t0 101 43 ∧ s = h_up s146 98 9 H147) _ (if_98_9 Is146 (by omega)) (Fs146.up rfl) ⟨es146.1, es146.2.1, es146.2.2.1, es146.2.2.2.1, es146.2.2.2.2.1, es146.2.2.2.2.2.1, es146.2.2.2.2.2.2.1, es146.2.2.2.2.2.2.2.1, es146.2.2.2.2.2.2.2.2.1, es146.2.2.2.2.2.2.2.2.2.1, rfl, es146.2.2.2.2.2.2.2.2.2.2.2.1, es146.2.2.2.2.2.2.2.2.2.2.2.2.1, es146.2.2.2.2.2.2.2.2.2.2.2.2.2.1, rfl⟩ (fun s148 Is148 Fs148 (es148 : s148 98 15 = t0 98 15 ∧ s148 98 16 = t0 98 16 ∧ s148 98 17 = t0 98 17 ∧ s148 98 18 = t0 98 18 ∧ s148 98 13 = t0 98 13 ∧ s148 98 14 = t0 98 14 ∧ s148 98 5 = t0 98 5 ∧ s148 98 6 = t0 98 6 ∧ s148 98 7 = t0 98 7 ∧ s148 98 8 = H145 ∧ s148 98 9 = H147 ∧ s148 101 18 = t0 101 18 ∧ s148 101 25 = t0 101 25 ∧ s148 101 43 = t0 101 43 ∧ s148 = h_up s146 98 9 H147) => ?_))))
                  refine h_aload_n (pc' := 131) rfl rfl rfl ?_
                  refine h_getR (pc' := 134) rfl rfl rfl rfl rfl ?_
                  refine h_bipush (pc' := 136) (x := (Int32.ofInt 35)) rfl rfl cb_35 ?_
                  refine h_aload_n (pc' := 137) rfl rfl rfl ?_
                  refine h_getR (pc' := 140) rfl rfl rfl rfl rfl ?_
                  refine h_bipush (pc' := 142) (x := (Int32.ofInt 43)) rfl rfl cb_43 ?_
                  refine h_iald (pc' := 143) (v := t0 101 43) rfl rfl rfl ci_43 (by omega) (by omega) es148.2.2.2.2.2.2.2.2.2.2.2.2.2.1 (fun z149 hz149 => ?_)
                  refine h_iadd (pc' := 144) rfl rfl ci_35 hz149 rfl (by omega) (by omega) (fun z150 hz150 => ?_)
                  clear hz149
                  refine h_aload_n (pc' := 145) rfl rfl rfl ?_
                  refine h_getI (pc' := 148) (v := t0 98 18) rfl rfl rfl rfl rfl es148.2.2.2.1 (fun z151 hz151 => ?_)
                  refine h_iast (pc' := 149) rfl rfl rfl rfl hz150 (by omega) (by omega) hz151 (h_fgt (E := fun s => s 98 15 = t0 98 15 ∧ s 98 16 = t0 98 16 ∧ s 98 17 = t0 98 17 ∧ s 98 18 = t0 98 18 ∧ s 98 13 = t0 98 13 ∧ s 98 14 = t0 98 14 ∧ s 98 5 = t0 98 5 ∧ s 98 6 = t0 98 6 ∧ s 98 7 = t0 98 7 ∧ s 98 8 = H145 ∧ s 98 9 = H147 ∧ s 101 18 = t0 101 18 ∧ s 101 25 = t0 101 25 ∧ s 101 43 = t0 101 43 ∧ s = h_up s148 101 (35 + (t0 101 43)) (t0 98 18)) _ (ip_101_9 Is148 (by omega) (by omega)) (Fs148.up rfl) ⟨es148.1, es148.2.1, es148.2.2.1, es148.2.2.2.1, es148.2.2.2.2.1, es148.2.2.2.2.2.1, es148.2.2.2.2.2.2.1, es148.2.2.2.2.2.2.2.1, es148.2.2.2.2.2.2.2.2.1, es148.2.2.2.2.2.2.2.2.2.1, es148.2.2.2.2.2.2.2.2.2.2.1, h_up_n2 (by omega) es148.2.2.2.2.2.2.2.2.2.2.2.1, h_up_n2 (by omega) es148.2.2.2.2.2.2.2.2.2.2.2.2.1, h_up_n2 (by omega) es148.2.2.2.2.2.2.2.2.2.2.2.2.2.1, rfl⟩ (fun s152 Is152 Fs152 (es152 : s152 98 15 = t0 98 15 ∧ s152 98 16 = t0 98 16 ∧ s152 98 17 = t0 98 17 ∧ s152 98 18 = t0 98 18 ∧ s152 98 13 = t0 98 13 ∧ s152 98 14 = t0 98 14 ∧ s152 98 5 = t0 98 5 ∧ s152 98 6 = t0 98 6 ∧ s152 98 7 = t0 98 7 ∧ s152 98 8 = H145 ∧ s152 98 9 = H147 ∧ s152 101 18 = t0 101 18 ∧ s152 101 25 = t0 101 25 ∧ s152 101 43 = t0 101 43 ∧ s152 = h_up s148 101 (35 + (t0 101 43)) (t0 98 18)) => ?_))
                  clear hz150 hz151
                  refine h_aload_n (pc' := 150) rfl rfl rfl ?_
                  refine h_getR (pc' := 153) rfl rfl rfl rfl rfl ?_
                  refine h_bipush (pc' := 155) (x := (Int32.ofInt 43)) rfl rfl cb_43 ?_
                  refine h_dup2 (pc' := 156) rfl rfl rfl ?_
                  refine h_iald (pc' := 157) (v := t0 101 43) rfl rfl rfl ci_43 (by omega) (by omega) es152.2.2.2.2.2.2.2.2.2.2.2.2.2.1 (fun z153 hz153 => ?_)
                  refine h_iconst (pc' := 158) (x := (Int32.ofInt 1)) rfl rfl rfl ?_
                  refine h_iadd (pc' := 159) rfl rfl hz153 ci_1 rfl (by omega) (by omega) (fun z154 hz154 => ?_)
                  clear hz153
                  refine h_iast (pc' := 160) rfl rfl rfl rfl ci_43 (by omega) (by omega) hz154 (h_fgt (E := fun s => s 98 15 = t0 98 15 ∧ s 98 16 = t0 98 16 ∧ s 98 17 = t0 98 17 ∧ s 98 18 = t0 98 18 ∧ s 98 13 = t0 98 13 ∧ s 98 14 = t0 98 14 ∧ s 98 5 = t0 98 5 ∧ s 98 6 = t0 98 6 ∧ s 98 7 = t0 98 7 ∧ s 98 8 = H145 ∧ s 98 9 = H147 ∧ s 101 18 = t0 101 18 ∧ s 101 25 = t0 101 25 ∧ s 101 43 = ((t0 101 43) + 1) ∧ s = h_up s152 101 43 ((t0 101 43) + 1)) _ (ip_101_10 Is152 (by omega) (by omega)) (Fs152.up rfl) ⟨es152.1, es152.2.1, es152.2.2.1, es152.2.2.2.1, es152.2.2.2.2.1, es152.2.2.2.2.2.1, es152.2.2.2.2.2.2.1, es152.2.2.2.2.2.2.2.1, es152.2.2.2.2.2.2.2.2.1, es152.2.2.2.2.2.2.2.2.2.1, es152.2.2.2.2.2.2.2.2.2.2.1, es152.2.2.2.2.2.2.2.2.2.2.2.1, es152.2.2.2.2.2.2.2.2.2.2.2.2.1, rfl, rfl⟩ (fun s155 Is155 Fs155 (es155 : s155 98 15 = t0 98 15 ∧ s155 98 16 = t0 98 16 ∧ s155 98 17 = t0 98 17 ∧ s155 98 18 = t0 98 18 ∧ s155 98 13 = t0 98 13 ∧ s155 98 14 = t0 98 14 ∧ s155 98 5 = t0 98 5 ∧ s155 98 6 = t0 98 6 ∧ s155 98 7 = t0 98 7 ∧ s155 98 8 = H145 ∧ s155 98 9 = H147 ∧ s155 101 18 = t0 101 18 ∧ s155 101 25 = t0 101 25 ∧ s155 101 43 = ((t0 101 43) + 1) ∧ s155 = h_up s152 101 43 ((t0 101 43) + 1)) => ?_))
                  refine h_aload_n (pc' := 161) rfl rfl rfl ?_
                  exfalso
                  omega
                · clear hz143
                  refine h_aload_n (pc' := 59) rfl rfl rfl ?_
                  refine h_iconst (pc' := 60) (x := (Int32.ofInt 3)) rfl rfl rfl ?_
                  refine h_call (sp := false) (pc' := 63) (M := [(0, .ref 98), (1, .int (Int32.ofInt 3))]) rfl rfl rfl rfl rfl rfl rfl rfl ?_
                  refine h_aload_n (pc' := 1) rfl rfl rfl ?_
                  refine h_getI (pc' := 4) (v := t0 98 13) rfl rfl rfl rfl rfl rfl (fun z156 hz156 => ?_)
                  refine h_zne (tg := 20) (pc' := 7) rfl rfl rfl hz156 (fun c157 => absurd c157 (by omega)) (fun c157 => ?_)
                  clear hz156
                  refine h_aload_n (pc' := 8) rfl rfl rfl ?_
                  refine h_iload_n (pc' := 9) rfl rfl rfl ?_
                  refine h_put (pc' := 12) rfl rfl rfl rfl rfl rfl ci_3 rfl (h_fgt (E := fun s => s 98 15 = t0 98 15 ∧ s 98 16 = t0 98 16 ∧ s 98 17 = t0 98 17 ∧ s 98 18 = t0 98 18 ∧ s 98 13 = 3 ∧ s 98 14 = t0 98 14 ∧ s 98 5 = t0 98 5 ∧ s 98 6 = t0 98 6 ∧ s 98 7 = t0 98 7 ∧ s 98 8 = t0 98 8 ∧ s 98 9 = t0 98 9 ∧ s 101 18 = t0 101 18 ∧ s 101 25 = t0 101 25 ∧ s 101 43 = t0 101 43 ∧ s = h_up t0 98 13 3) _ (if_98_13 J0 (by omega)) (H0_.up rfl) ⟨rfl, rfl, rfl, rfl, rfl, rfl, rfl, rfl, rfl, rfl, rfl, rfl, rfl, rfl, rfl⟩ (fun s158 Is158 Fs158 (es158 : s158 98 15 = t0 98 15 ∧ s158 98 16 = t0 98 16 ∧ s158 98 17 = t0 98 17 ∧ s158 98 18 = t0 98 18 ∧ s158 98 13 = 3 ∧ s158 98 14 = t0 98 14 ∧ s158 98 5 = t0 98 5 ∧ s158 98 6 = t0 98 6 ∧ s158 98 7 = t0 98 7 ∧ s158 98 8 = t0 98 8 ∧ s158 98 9 = t0 98 9 ∧ s158 101 18 = t0 101 18 ∧ s158 101 25 = t0 101 25 ∧ s158 101 43 = t0 101 43 ∧ s158 = h_up t0 98 13 3) => ?_))
                  refine h_aload_n (pc' := 13) rfl rfl rfl ?_
                  refine h_aload_n (pc' := 14) rfl rfl rfl ?_
                  refine h_getI (pc' := 17) (v := t0 98 16) rfl rfl rfl rfl rfl es158.2.1 (fun z159 hz159 => ?_)
                  have tz159 := tf_98_16 J0
                  refine h_put (pc' := 20) rfl rfl rfl rfl rfl rfl hz159 rfl (h_fgt (E := fun s => s 98 15 = t0 98 15 ∧ s 98 16 = t0 98 16 ∧ s 98 17 = t0 98 17 ∧ s 98 18 = t0 98 18 ∧ s 98 13 = 3 ∧ s 98 14 = (t0 98 16) ∧ s 98 5 = t0 98 5 ∧ s 98 6 = t0 98 6 ∧ s 98 7 = t0 98 7 ∧ s 98 8 = t0 98 8 ∧ s 98 9 = t0 98 9 ∧ s 101 18 = t0 101 18 ∧ s 101 25 = t0 101 25 ∧ s 101 43 = t0 101 43 ∧ s = h_up s158 98 14 (t0 98 16)) _ (if_98_14 Is158 (h_rgv hz159)) (Fs158.up rfl) ⟨es158.1, es158.2.1, es158.2.2.1, es158.2.2.2.1, es158.2.2.2.2.1, rfl, es158.2.2.2.2.2.2.1, es158.2.2.2.2.2.2.2.1, es158.2.2.2.2.2.2.2.2.1, es158.2.2.2.2.2.2.2.2.2.1, es158.2.2.2.2.2.2.2.2.2.2.1, es158.2.2.2.2.2.2.2.2.2.2.2.1, es158.2.2.2.2.2.2.2.2.2.2.2.2.1, es158.2.2.2.2.2.2.2.2.2.2.2.2.2.1, rfl⟩ (fun s160 Is160 Fs160 (es160 : s160 98 15 = t0 98 15 ∧ s160 98 16 = t0 98 16 ∧ s160 98 17 = t0 98 17 ∧ s160 98 18 = t0 98 18 ∧ s160 98 13 = 3 ∧ s160 98 14 = (t0 98 16) ∧ s160 98 5 = t0 98 5 ∧ s160 98 6 = t0 98 6 ∧ s160 98 7 = t0 98 7 ∧ s160 98 8 = t0 98 8 ∧ s160 98 9 = t0 98 9 ∧ s160 101 18 = t0 101 18 ∧ s160 101 25 = t0 101 25 ∧ s160 101 43 = t0 101 43 ∧ s160 = h_up s158 98 14 (t0 98 16)) => ?_))
                  refine h_vret rfl rfl (h_Kn ?_)
                  refine h_goto (pc' := 0) rfl rfl ?_
                  refine d_toL (g_inj ns) hlw126 hRw126 (fun lvw161 memw161 hlw161 hRw161 => ?_)
                  show h_T g_P (g_Y ns) 62 30 [(1, .int z125), (0, .ref 63)] [] s124 _
                  exact h_wk [(0, .ref 63), (1, .int z125)] ⟨rfl, rfl, trivial⟩ (ih _ _ Is124 Is160 Fs124 Fs160 z125 _ hz125  (by omega) (by omega) (by omega) (by omega) (by omega) (by omega) (by omega) (by omega) (by omega) (fun h => absurd h (by omega)) (Or.inl ⟨by omega, by omega, by omega, by omega⟩) (by omega) _ _ (h_al_ok ⟨rfl, trivial⟩ hlw161) hRw161)
            · clear hz131
              refine h_aload_n (pc' := 28) rfl rfl rfl ?_
              refine h_iconst (pc' := 29) (x := (Int32.ofInt 5)) rfl rfl rfl ?_
              refine h_call (sp := false) (pc' := 32) (M := [(0, .ref 98), (1, .int (Int32.ofInt 5))]) rfl rfl rfl rfl rfl rfl rfl rfl ?_
              refine h_aload_n (pc' := 1) rfl rfl rfl ?_
              refine h_getI (pc' := 4) (v := t0 98 13) rfl rfl rfl rfl rfl rfl (fun z162 hz162 => ?_)
              refine h_zne (tg := 20) (pc' := 7) rfl rfl rfl hz162 (fun c163 => absurd c163 (by omega)) (fun c163 => ?_)
              clear hz162
              refine h_aload_n (pc' := 8) rfl rfl rfl ?_
              refine h_iload_n (pc' := 9) rfl rfl rfl ?_
              refine h_put (pc' := 12) rfl rfl rfl rfl rfl rfl ci_5 rfl (h_fgt (E := fun s => s 98 15 = t0 98 15 ∧ s 98 16 = t0 98 16 ∧ s 98 17 = t0 98 17 ∧ s 98 18 = t0 98 18 ∧ s 98 13 = 5 ∧ s 98 14 = t0 98 14 ∧ s 98 5 = t0 98 5 ∧ s 98 6 = t0 98 6 ∧ s 98 7 = t0 98 7 ∧ s 98 8 = t0 98 8 ∧ s 98 9 = t0 98 9 ∧ s 101 18 = t0 101 18 ∧ s 101 25 = t0 101 25 ∧ s 101 43 = t0 101 43 ∧ s = h_up t0 98 13 5) _ (if_98_13 J0 (by omega)) (H0_.up rfl) ⟨rfl, rfl, rfl, rfl, rfl, rfl, rfl, rfl, rfl, rfl, rfl, rfl, rfl, rfl, rfl⟩ (fun s164 Is164 Fs164 (es164 : s164 98 15 = t0 98 15 ∧ s164 98 16 = t0 98 16 ∧ s164 98 17 = t0 98 17 ∧ s164 98 18 = t0 98 18 ∧ s164 98 13 = 5 ∧ s164 98 14 = t0 98 14 ∧ s164 98 5 = t0 98 5 ∧ s164 98 6 = t0 98 6 ∧ s164 98 7 = t0 98 7 ∧ s164 98 8 = t0 98 8 ∧ s164 98 9 = t0 98 9 ∧ s164 101 18 = t0 101 18 ∧ s164 101 25 = t0 101 25 ∧ s164 101 43 = t0 101 43 ∧ s164 = h_up t0 98 13 5) => ?_))
              refine h_aload_n (pc' := 13) rfl rfl rfl ?_
              refine h_aload_n (pc' := 14) rfl rfl rfl ?_
              refine h_getI (pc' := 17) (v := t0 98 16) rfl rfl rfl rfl rfl es164.2.1 (fun z165 hz165 => ?_)
              have tz165 := tf_98_16 J0
              refine h_put (pc' := 20) rfl rfl rfl rfl rfl rfl hz165 rfl (h_fgt (E := fun s => s 98 15 = t0 98 15 ∧ s 98 16 = t0 98 16 ∧ s 98 17 = t0 98 17 ∧ s 98 18 = t0 98 18 ∧ s 98 13 = 5 ∧ s 98 14 = (t0 98 16) ∧ s 98 5 = t0 98 5 ∧ s 98 6 = t0 98 6 ∧ s 98 7 = t0 98 7 ∧ s 98 8 = t0 98 8 ∧ s 98 9 = t0 98 9 ∧ s 101 18 = t0 101 18 ∧ s 101 25 = t0 101 25 ∧ s 101 43 = t0 101 43 ∧ s = h_up s164 98 14 (t0 98 16)) _ (if_98_14 Is164 (h_rgv hz165)) (Fs164.up rfl) ⟨es164.1, es164.2.1, es164.2.2.1, es164.2.2.2.1, es164.2.2.2.2.1, rfl, es164.2.2.2.2.2.2.1, es164.2.2.2.2.2.2.2.1, es164.2.2.2.2.2.2.2.2.1, es164.2.2.2.2.2.2.2.2.2.1, es164.2.2.2.2.2.2.2.2.2.2.1, es164.2.2.2.2.2.2.2.2.2.2.2.1, es164.2.2.2.2.2.2.2.2.2.2.2.2.1, es164.2.2.2.2.2.2.2.2.2.2.2.2.2.1, rfl⟩ (fun s166 Is166 Fs166 (es166 : s166 98 15 = t0 98 15 ∧ s166 98 16 = t0 98 16 ∧ s166 98 17 = t0 98 17 ∧ s166 98 18 = t0 98 18 ∧ s166 98 13 = 5 ∧ s166 98 14 = (t0 98 16) ∧ s166 98 5 = t0 98 5 ∧ s166 98 6 = t0 98 6 ∧ s166 98 7 = t0 98 7 ∧ s166 98 8 = t0 98 8 ∧ s166 98 9 = t0 98 9 ∧ s166 101 18 = t0 101 18 ∧ s166 101 25 = t0 101 25 ∧ s166 101 43 = t0 101 43 ∧ s166 = h_up s164 98 14 (t0 98 16)) => ?_))
              refine h_vret rfl rfl (h_Kn ?_)
              refine h_goto (pc' := 0) rfl rfl ?_
              refine d_toL (g_inj ns) hlw126 hRw126 (fun lvw167 memw167 hlw167 hRw167 => ?_)
              show h_T g_P (g_Y ns) 62 30 [(1, .int z125), (0, .ref 63)] [] s124 _
              exact h_wk [(0, .ref 63), (1, .int z125)] ⟨rfl, rfl, trivial⟩ (ih _ _ Is124 Is166 Fs124 Fs166 z125 _ hz125  (by omega) (by omega) (by omega) (by omega) (by omega) (by omega) (by omega) (by omega) (by omega) (fun h => absurd h (by omega)) (Or.inl ⟨by omega, by omega, by omega, by omega⟩) (by omega) _ _ (h_al_ok ⟨rfl, trivial⟩ hlw167) hRw167)
          · clear hz118
            refine h_iload_n (pc' := 45) rfl rfl rfl ?_
            refine h_bipush (pc' := 47) (x := (Int32.ofInt 10)) rfl rfl cb_10 ?_
            refine h_irem (pc' := 48) rfl rfl hz115 ci_10 (by omega) (by omega) (fun z168 hz168 => ?_)
            refine h_iconst (pc' := 49) (x := (Int32.ofInt 3)) rfl rfl rfl ?_
            refine h_clt (tg := 67) (pc' := 52) rfl rfl rfl hz168 ci_3 (fun c169 => ?_) (fun c169 => ?_)
            · clear hz168
              refine h_aload_n (pc' := 68) rfl rfl rfl ?_
              refine h_getR (pc' := 71) rfl rfl rfl rfl rfl ?_
              refine h_iload_n (pc' := 72) rfl rfl rfl ?_
              refine h_call (sp := false) (pc' := 75) (M := [(0, .ref 66), (1, .int z115)]) rfl rfl rfl rfl rfl rfl rfl rfl ?_
              refine h_aload_n (pc' := 1) rfl rfl rfl ?_
              refine h_getI (pc' := 4) (v := s0 66 10) rfl rfl rfl rfl rfl rfl (fun z170 hz170 => ?_)
              refine h_bipush (pc' := 6) (x := (Int32.ofInt 8)) rfl rfl cb_8 ?_
              refine h_cge (tg := 29) (pc' := 9) rfl rfl rfl hz170 ci_8 (fun c171 => absurd c171 (by omega)) (fun c171 => ?_)
              clear hz170
              refine h_aload_n (pc' := 10) rfl rfl rfl ?_
              refine h_getR (pc' := 13) rfl rfl rfl rfl rfl ?_
              refine h_aload_n (pc' := 14) rfl rfl rfl ?_
              refine h_getI (pc' := 17) (v := s0 66 10) rfl rfl rfl rfl rfl rfl (fun z172 hz172 => ?_)
              refine h_iload_n (pc' := 18) rfl rfl rfl ?_
              refine h_iast (pc' := 19) rfl rfl rfl rfl hz172 (by omega) (by omega) hz115 (h_fgt (E := fun s => s 64 2 = s0 64 2 ∧ s 64 4 = s0 64 4 ∧ s 64 3 = s0 64 3 ∧ s 64 5 = s0 64 5 ∧ s 63 2 = s0 63 2 ∧ s 63 3 = s0 63 3 ∧ s 64 1 = s0 64 1 ∧ s 66 8 = s0 66 8 ∧ s 66 9 = s0 66 9 ∧ s 66 10 = s0 66 10 ∧ s 69 2 = s0 69 2 ∧ s 72 2 = s0 72 2 ∧ s 63 5 = s0 63 5 ∧ s = h_up s0 78 (s0 66 10) (s0 64 5)) _ (in_78 I0 (by omega)) (F0_.up rfl) ⟨rfl, rfl, rfl, rfl, rfl, rfl, rfl, rfl, rfl, rfl, rfl, rfl, rfl, rfl⟩ (fun s173 Is173 Fs173 (es173 : s173 64 2 = s0 64 2 ∧ s173 64 4 = s0 64 4 ∧ s173 64 3 = s0 64 3 ∧ s173 64 5 = s0 64 5 ∧ s173 63 2 = s0 63 2 ∧ s173 63 3 = s0 63 3 ∧ s173 64 1 = s0 64 1 ∧ s173 66 8 = s0 66 8 ∧ s173 66 9 = s0 66 9 ∧ s173 66 10 = s0 66 10 ∧ s173 69 2 = s0 69 2 ∧ s173 72 2 = s0 72 2 ∧ s173 63 5 = s0 63 5 ∧ s173 = h_up s0 78 (s0 66 10) (s0 64 5)) => ?_))
              clear hz172
              refine h_aload_n (pc' := 20) rfl rfl rfl ?_
              refine h_dup (pc' := 21) rfl rfl rfl ?_
              refine h_getI (pc' := 24) (v := s0 66 10) rfl rfl rfl rfl rfl es173.2.2.2.2.2.2.2.2.2.1 (fun z174 hz174 => ?_)
              refine h_iconst (pc' := 25) (x := (Int32.ofInt 1)) rfl rfl rfl ?_
              refine h_iadd (pc' := 26) rfl rfl hz174 ci_1 rfl (by omega) (by omega) (fun z175 hz175 => ?_)
              clear hz174
              refine h_put (pc' := 29) rfl rfl rfl rfl rfl rfl hz175 rfl (h_fgt (E := fun s => s 64 2 = s0 64 2 ∧ s 64 4 = s0 64 4 ∧ s 64 3 = s0 64 3 ∧ s 64 5 = s0 64 5 ∧ s 63 2 = s0 63 2 ∧ s 63 3 = s0 63 3 ∧ s 64 1 = s0 64 1 ∧ s 66 8 = s0 66 8 ∧ s 66 9 = s0 66 9 ∧ s 66 10 = ((s0 66 10) + 1) ∧ s 69 2 = s0 69 2 ∧ s 72 2 = s0 72 2 ∧ s 63 5 = s0 63 5 ∧ s = h_up s173 66 10 ((s0 66 10) + 1)) _ (if_66_10 Is173 (by omega)) (Fs173.up rfl) ⟨es173.1, es173.2.1, es173.2.2.1, es173.2.2.2.1, es173.2.2.2.2.1, es173.2.2.2.2.2.1, es173.2.2.2.2.2.2.1, es173.2.2.2.2.2.2.2.1, es173.2.2.2.2.2.2.2.2.1, rfl, es173.2.2.2.2.2.2.2.2.2.2.1, es173.2.2.2.2.2.2.2.2.2.2.2.1, es173.2.2.2.2.2.2.2.2.2.2.2.2.1, rfl⟩ (fun s176 Is176 Fs176 (es176 : s176 64 2 = s0 64 2 ∧ s176 64 4 = s0 64 4 ∧ s176 64 3 = s0 64 3 ∧ s176 64 5 = s0 64 5 ∧ s176 63 2 = s0 63 2 ∧ s176 63 3 = s0 63 3 ∧ s176 64 1 = s0 64 1 ∧ s176 66 8 = s0 66 8 ∧ s176 66 9 = s0 66 9 ∧ s176 66 10 = ((s0 66 10) + 1) ∧ s176 69 2 = s0 69 2 ∧ s176 72 2 = s0 72 2 ∧ s176 63 5 = s0 63 5 ∧ s176 = h_up s173 66 10 ((s0 66 10) + 1)) => ?_))
              refine h_vret rfl rfl (h_Kn ?_)
              refine h_aload_n (pc' := 76) rfl rfl rfl ?_
              refine d_toM (g_inj ns) hl2 hR2 (fun lvw177 memw177 hlw177 hRw177 => ?_)
              show h_T g_P (g_Y ns) 152 0 [(0, .ref 98)] [] t0 _
              refine h_aload_n (pc' := 1) rfl rfl rfl ?_
              refine h_getI (pc' := 4) (v := t0 98 13) rfl rfl rfl rfl rfl rfl (fun z178 hz178 => ?_)
              have tz178 := tf_98_13 J0
              refine h_zne (tg := 167) (pc' := 7) rfl rfl rfl hz178 (fun c179 => absurd c179 (by omega)) (fun c179 => ?_)
              clear hz178
              refine h_aload_n (pc' := 8) rfl rfl rfl ?_
              refine h_getI (pc' := 11) (v := t0 98 17) rfl rfl rfl rfl rfl rfl (fun z180 hz180 => ?_)
              have tz180 := tf_98_17 J0
              refine h_iconst (pc' := 12) (x := (Int32.ofInt 2)) rfl rfl rfl ?_
              refine h_cne (tg := 167) (pc' := 15) rfl rfl rfl hz180 ci_2 (fun c181 => absurd c181 (by omega)) (fun c181 => ?_)
              clear hz180
              refine h_aload_n (pc' := 16) rfl rfl rfl ?_
              refine h_getR (pc' := 19) rfl rfl rfl rfl rfl ?_
              refine h_bipush (pc' := 21) (x := (Int32.ofInt 43)) rfl rfl cb_43 ?_
              refine h_iald (pc' := 22) (v := t0 101 43) rfl rfl rfl ci_43 (by omega) (by omega) rfl (fun z182 hz182 => ?_)
              have tz182 := ty_101_10 J0 43 (by omega)
              refine h_bipush (pc' := 24) (x := (Int32.ofInt 8)) rfl rfl cb_8 ?_
              refine h_cne (tg := 35) (pc' := 27) rfl rfl rfl hz182 ci_8 (fun c183 => ?_) (fun c183 => ?_)
              · clear hz182
                refine h_aload_n (pc' := 36) rfl rfl rfl ?_
                refine h_getI (pc' := 39) (v := t0 98 18) rfl rfl rfl rfl rfl rfl (fun z184 hz184 => ?_)
                have tz184 := tf_98_18 J0
                refine h_bipush (pc' := 41) (x := (Int32.ofInt 10)) rfl rfl cb_10 ?_
                refine h_idiv (pc' := 42) rfl rfl hz184 ci_10 (by omega) (by omega) (fun z185 hz185 => ?_)
                clear hz184
                refine h_bipush (pc' := 44) (x := (Int32.ofInt 6)) rfl rfl cb_6 ?_
                refine h_cge (tg := 58) (pc' := 47) rfl rfl rfl hz185 ci_6 (fun c186 => ?_) (fun c186 => ?_)
                · clear hz185
                  refine h_aload_n (pc' := 59) rfl rfl rfl ?_
                  refine h_iconst (pc' := 60) (x := (Int32.ofInt 3)) rfl rfl rfl ?_
                  refine h_call (sp := false) (pc' := 63) (M := [(0, .ref 98), (1, .int (Int32.ofInt 3))]) rfl rfl rfl rfl rfl rfl rfl rfl ?_
                  refine h_aload_n (pc' := 1) rfl rfl rfl ?_
                  refine h_getI (pc' := 4) (v := t0 98 13) rfl rfl rfl rfl rfl rfl (fun z187 hz187 => ?_)
                  refine h_zne (tg := 20) (pc' := 7) rfl rfl rfl hz187 (fun c188 => absurd c188 (by omega)) (fun c188 => ?_)
                  clear hz187
                  refine h_aload_n (pc' := 8) rfl rfl rfl ?_
                  refine h_iload_n (pc' := 9) rfl rfl rfl ?_
                  refine h_put (pc' := 12) rfl rfl rfl rfl rfl rfl ci_3 rfl (h_fgt (E := fun s => s 98 15 = t0 98 15 ∧ s 98 16 = t0 98 16 ∧ s 98 17 = t0 98 17 ∧ s 98 18 = t0 98 18 ∧ s 98 13 = 3 ∧ s 98 14 = t0 98 14 ∧ s 98 5 = t0 98 5 ∧ s 98 6 = t0 98 6 ∧ s 98 7 = t0 98 7 ∧ s 98 8 = t0 98 8 ∧ s 98 9 = t0 98 9 ∧ s 101 18 = t0 101 18 ∧ s 101 25 = t0 101 25 ∧ s 101 43 = t0 101 43 ∧ s = h_up t0 98 13 3) _ (if_98_13 J0 (by omega)) (H0_.up rfl) ⟨rfl, rfl, rfl, rfl, rfl, rfl, rfl, rfl, rfl, rfl, rfl, rfl, rfl, rfl, rfl⟩ (fun s189 Is189 Fs189 (es189 : s189 98 15 = t0 98 15 ∧ s189 98 16 = t0 98 16 ∧ s189 98 17 = t0 98 17 ∧ s189 98 18 = t0 98 18 ∧ s189 98 13 = 3 ∧ s189 98 14 = t0 98 14 ∧ s189 98 5 = t0 98 5 ∧ s189 98 6 = t0 98 6 ∧ s189 98 7 = t0 98 7 ∧ s189 98 8 = t0 98 8 ∧ s189 98 9 = t0 98 9 ∧ s189 101 18 = t0 101 18 ∧ s189 101 25 = t0 101 25 ∧ s189 101 43 = t0 101 43 ∧ s189 = h_up t0 98 13 3) => ?_))
                  refine h_aload_n (pc' := 13) rfl rfl rfl ?_
                  refine h_aload_n (pc' := 14) rfl rfl rfl ?_
                  refine h_getI (pc' := 17) (v := t0 98 16) rfl rfl rfl rfl rfl es189.2.1 (fun z190 hz190 => ?_)
                  have tz190 := tf_98_16 J0
                  refine h_put (pc' := 20) rfl rfl rfl rfl rfl rfl hz190 rfl (h_fgt (E := fun s => s 98 15 = t0 98 15 ∧ s 98 16 = t0 98 16 ∧ s 98 17 = t0 98 17 ∧ s 98 18 = t0 98 18 ∧ s 98 13 = 3 ∧ s 98 14 = (t0 98 16) ∧ s 98 5 = t0 98 5 ∧ s 98 6 = t0 98 6 ∧ s 98 7 = t0 98 7 ∧ s 98 8 = t0 98 8 ∧ s 98 9 = t0 98 9 ∧ s 101 18 = t0 101 18 ∧ s 101 25 = t0 101 25 ∧ s 101 43 = t0 101 43 ∧ s = h_up s189 98 14 (t0 98 16)) _ (if_98_14 Is189 (h_rgv hz190)) (Fs189.up rfl) ⟨es189.1, es189.2.1, es189.2.2.1, es189.2.2.2.1, es189.2.2.2.2.1, rfl, es189.2.2.2.2.2.2.1, es189.2.2.2.2.2.2.2.1, es189.2.2.2.2.2.2.2.2.1, es189.2.2.2.2.2.2.2.2.2.1, es189.2.2.2.2.2.2.2.2.2.2.1, es189.2.2.2.2.2.2.2.2.2.2.2.1, es189.2.2.2.2.2.2.2.2.2.2.2.2.1, es189.2.2.2.2.2.2.2.2.2.2.2.2.2.1, rfl⟩ (fun s191 Is191 Fs191 (es191 : s191 98 15 = t0 98 15 ∧ s191 98 16 = t0 98 16 ∧ s191 98 17 = t0 98 17 ∧ s191 98 18 = t0 98 18 ∧ s191 98 13 = 3 ∧ s191 98 14 = (t0 98 16) ∧ s191 98 5 = t0 98 5 ∧ s191 98 6 = t0 98 6 ∧ s191 98 7 = t0 98 7 ∧ s191 98 8 = t0 98 8 ∧ s191 98 9 = t0 98 9 ∧ s191 101 18 = t0 101 18 ∧ s191 101 25 = t0 101 25 ∧ s191 101 43 = t0 101 43 ∧ s191 = h_up s189 98 14 (t0 98 16)) => ?_))
                  refine h_vret rfl rfl (h_Kn ?_)
                  refine h_goto (pc' := 0) rfl rfl ?_
                  exfalso
                  omega
                · clear hz185
                  refine h_aload_n (pc' := 48) rfl rfl rfl ?_
                  refine h_getI (pc' := 51) (v := t0 98 18) rfl rfl rfl rfl rfl rfl (fun z192 hz192 => ?_)
                  refine h_bipush (pc' := 53) (x := (Int32.ofInt 10)) rfl rfl cb_10 ?_
                  refine h_irem (pc' := 54) rfl rfl hz192 ci_10 (by omega) (by omega) (fun z193 hz193 => ?_)
                  clear hz192
                  refine h_iconst (pc' := 55) (x := (Int32.ofInt 3)) rfl rfl rfl ?_
                  refine h_clt (tg := 66) (pc' := 58) rfl rfl rfl hz193 ci_3 (fun c194 => ?_) (fun c194 => ?_)
                  · clear hz193
                    have gH195 : 0 ≤ t0 98 18 ∧ t0 98 18 ≤ 99 := by have ga := tf_98_18 J0; omega
                    have oH195 : t0 98 8 = t0 98 8 := rfl
                    have vH195 : t0 98 18 = t0 98 18 := rfl
                    have uH195 := tf_98_8 J0
                    refine h_wk [(0, .ref 98)] ⟨rfl, trivial⟩ (lm_ho _ J0 (by omega) (fun H195 hH195 => (h_fgt (E := fun s => s 98 15 = t0 98 15 ∧ s 98 16 = t0 98 16 ∧ s 98 17 = t0 98 17 ∧ s 98 18 = t0 98 18 ∧ s 98 13 = t0 98 13 ∧ s 98 14 = t0 98 14 ∧ s 98 5 = t0 98 5 ∧ s 98 6 = t0 98 6 ∧ s 98 7 = t0 98 7 ∧ s 98 8 = H195 ∧ s 98 9 = t0 98 9 ∧ s 101 18 = t0 101 18 ∧ s 101 25 = t0 101 25 ∧ s 101 43 = t0 101 43 ∧ s = h_up t0 98 8 H195) _ (if_98_8 J0 (by omega)) (H0_.up rfl) ⟨rfl, rfl, rfl, rfl, rfl, rfl, rfl, rfl, rfl, rfl, rfl, rfl, rfl, rfl, rfl⟩ (fun s196 Is196 Fs196 (es196 : s196 98 15 = t0 98 15 ∧ s196 98 16 = t0 98 16 ∧ s196 98 17 = t0 98 17 ∧ s196 98 18 = t0 98 18 ∧ s196 98 13 = t0 98 13 ∧ s196 98 14 = t0 98 14 ∧ s196 98 5 = t0 98 5 ∧ s196 98 6 = t0 98 6 ∧ s196 98 7 = t0 98 7 ∧ s196 98 8 = H195 ∧ s196 98 9 = t0 98 9 ∧ s196 101 18 = t0 101 18 ∧ s196 101 25 = t0 101 25 ∧ s196 101 43 = t0 101 43 ∧ s196 = h_up t0 98 8 H195) => ?_))))
                    have gH197 : 0 ≤ s196 98 18 ∧ s196 98 18 ≤ 99 := by have ga := es196.2.2.2.1; omega
                    have oH197 : s196 98 9 = t0 98 9 := es196.2.2.2.2.2.2.2.2.2.2.1
                    have vH197 : s196 98 18 = t0 98 18 := es196.2.2.2.1
                    have uH197 := tf_98_9 Is196
                    refine h_wk [(0, .ref 98)] ⟨rfl, trivial⟩ (lm_hg _ Is196 (by omega) (fun H197 hH197 => (h_fgt (E := fun s => s 98 15 = t0 98 15 ∧ s 98 16 = t0 98 16 ∧ s 98 17 = t0 98 17 ∧ s 98 18 = t0 98 18 ∧ s 98 13 = t0 98 13 ∧ s 98 14 = t0 98 14 ∧ s 98 5 = t0 98 5 ∧ s 98 6 = t0 98 6 ∧ s 98 7 = t0 98 7 ∧ s 98 8 = H195 ∧ s 98 9 = H197 ∧ s 101 18 = t0 101 18 ∧ s 101 25 = t0 101 25 ∧ s 101 43 = t0 101 43 ∧ s = h_up s196 98 9 H197) _ (if_98_9 Is196 (by omega)) (Fs196.up rfl) ⟨es196.1, es196.2.1, es196.2.2.1, es196.2.2.2.1, es196.2.2.2.2.1, es196.2.2.2.2.2.1, es196.2.2.2.2.2.2.1, es196.2.2.2.2.2.2.2.1, es196.2.2.2.2.2.2.2.2.1, es196.2.2.2.2.2.2.2.2.2.1, rfl, es196.2.2.2.2.2.2.2.2.2.2.2.1, es196.2.2.2.2.2.2.2.2.2.2.2.2.1, es196.2.2.2.2.2.2.2.2.2.2.2.2.2.1, rfl⟩ (fun s198 Is198 Fs198 (es198 : s198 98 15 = t0 98 15 ∧ s198 98 16 = t0 98 16 ∧ s198 98 17 = t0 98 17 ∧ s198 98 18 = t0 98 18 ∧ s198 98 13 = t0 98 13 ∧ s198 98 14 = t0 98 14 ∧ s198 98 5 = t0 98 5 ∧ s198 98 6 = t0 98 6 ∧ s198 98 7 = t0 98 7 ∧ s198 98 8 = H195 ∧ s198 98 9 = H197 ∧ s198 101 18 = t0 101 18 ∧ s198 101 25 = t0 101 25 ∧ s198 101 43 = t0 101 43 ∧ s198 = h_up s196 98 9 H197) => ?_))))
                    refine h_aload_n (pc' := 131) rfl rfl rfl ?_
                    refine h_getR (pc' := 134) rfl rfl rfl rfl rfl ?_
                    refine h_bipush (pc' := 136) (x := (Int32.ofInt 35)) rfl rfl cb_35 ?_
                    refine h_aload_n (pc' := 137) rfl rfl rfl ?_
                    refine h_getR (pc' := 140) rfl rfl rfl rfl rfl ?_
                    refine h_bipush (pc' := 142) (x := (Int32.ofInt 43)) rfl rfl cb_43 ?_
                    refine h_iald (pc' := 143) (v := t0 101 43) rfl rfl rfl ci_43 (by omega) (by omega) es198.2.2.2.2.2.2.2.2.2.2.2.2.2.1 (fun z199 hz199 => ?_)
                    refine h_iadd (pc' := 144) rfl rfl ci_35 hz199 rfl (by omega) (by omega) (fun z200 hz200 => ?_)
                    clear hz199
                    refine h_aload_n (pc' := 145) rfl rfl rfl ?_
                    refine h_getI (pc' := 148) (v := t0 98 18) rfl rfl rfl rfl rfl es198.2.2.2.1 (fun z201 hz201 => ?_)
                    refine h_iast (pc' := 149) rfl rfl rfl rfl hz200 (by omega) (by omega) hz201 (h_fgt (E := fun s => s 98 15 = t0 98 15 ∧ s 98 16 = t0 98 16 ∧ s 98 17 = t0 98 17 ∧ s 98 18 = t0 98 18 ∧ s 98 13 = t0 98 13 ∧ s 98 14 = t0 98 14 ∧ s 98 5 = t0 98 5 ∧ s 98 6 = t0 98 6 ∧ s 98 7 = t0 98 7 ∧ s 98 8 = H195 ∧ s 98 9 = H197 ∧ s 101 18 = t0 101 18 ∧ s 101 25 = t0 101 25 ∧ s 101 43 = t0 101 43 ∧ s = h_up s198 101 (35 + (t0 101 43)) (t0 98 18)) _ (ip_101_9 Is198 (by omega) (by omega)) (Fs198.up rfl) ⟨es198.1, es198.2.1, es198.2.2.1, es198.2.2.2.1, es198.2.2.2.2.1, es198.2.2.2.2.2.1, es198.2.2.2.2.2.2.1, es198.2.2.2.2.2.2.2.1, es198.2.2.2.2.2.2.2.2.1, es198.2.2.2.2.2.2.2.2.2.1, es198.2.2.2.2.2.2.2.2.2.2.1, h_up_n2 (by omega) es198.2.2.2.2.2.2.2.2.2.2.2.1, h_up_n2 (by omega) es198.2.2.2.2.2.2.2.2.2.2.2.2.1, h_up_n2 (by omega) es198.2.2.2.2.2.2.2.2.2.2.2.2.2.1, rfl⟩ (fun s202 Is202 Fs202 (es202 : s202 98 15 = t0 98 15 ∧ s202 98 16 = t0 98 16 ∧ s202 98 17 = t0 98 17 ∧ s202 98 18 = t0 98 18 ∧ s202 98 13 = t0 98 13 ∧ s202 98 14 = t0 98 14 ∧ s202 98 5 = t0 98 5 ∧ s202 98 6 = t0 98 6 ∧ s202 98 7 = t0 98 7 ∧ s202 98 8 = H195 ∧ s202 98 9 = H197 ∧ s202 101 18 = t0 101 18 ∧ s202 101 25 = t0 101 25 ∧ s202 101 43 = t0 101 43 ∧ s202 = h_up s198 101 (35 + (t0 101 43)) (t0 98 18)) => ?_))
                    clear hz200 hz201
                    refine h_aload_n (pc' := 150) rfl rfl rfl ?_
                    refine h_getR (pc' := 153) rfl rfl rfl rfl rfl ?_
                    refine h_bipush (pc' := 155) (x := (Int32.ofInt 43)) rfl rfl cb_43 ?_
                    refine h_dup2 (pc' := 156) rfl rfl rfl ?_
                    refine h_iald (pc' := 157) (v := t0 101 43) rfl rfl rfl ci_43 (by omega) (by omega) es202.2.2.2.2.2.2.2.2.2.2.2.2.2.1 (fun z203 hz203 => ?_)
                    refine h_iconst (pc' := 158) (x := (Int32.ofInt 1)) rfl rfl rfl ?_
                    refine h_iadd (pc' := 159) rfl rfl hz203 ci_1 rfl (by omega) (by omega) (fun z204 hz204 => ?_)
                    clear hz203
                    refine h_iast (pc' := 160) rfl rfl rfl rfl ci_43 (by omega) (by omega) hz204 (h_fgt (E := fun s => s 98 15 = t0 98 15 ∧ s 98 16 = t0 98 16 ∧ s 98 17 = t0 98 17 ∧ s 98 18 = t0 98 18 ∧ s 98 13 = t0 98 13 ∧ s 98 14 = t0 98 14 ∧ s 98 5 = t0 98 5 ∧ s 98 6 = t0 98 6 ∧ s 98 7 = t0 98 7 ∧ s 98 8 = H195 ∧ s 98 9 = H197 ∧ s 101 18 = t0 101 18 ∧ s 101 25 = t0 101 25 ∧ s 101 43 = ((t0 101 43) + 1) ∧ s = h_up s202 101 43 ((t0 101 43) + 1)) _ (ip_101_10 Is202 (by omega) (by omega)) (Fs202.up rfl) ⟨es202.1, es202.2.1, es202.2.2.1, es202.2.2.2.1, es202.2.2.2.2.1, es202.2.2.2.2.2.1, es202.2.2.2.2.2.2.1, es202.2.2.2.2.2.2.2.1, es202.2.2.2.2.2.2.2.2.1, es202.2.2.2.2.2.2.2.2.2.1, es202.2.2.2.2.2.2.2.2.2.2.1, es202.2.2.2.2.2.2.2.2.2.2.2.1, es202.2.2.2.2.2.2.2.2.2.2.2.2.1, rfl, rfl⟩ (fun s205 Is205 Fs205 (es205 : s205 98 15 = t0 98 15 ∧ s205 98 16 = t0 98 16 ∧ s205 98 17 = t0 98 17 ∧ s205 98 18 = t0 98 18 ∧ s205 98 13 = t0 98 13 ∧ s205 98 14 = t0 98 14 ∧ s205 98 5 = t0 98 5 ∧ s205 98 6 = t0 98 6 ∧ s205 98 7 = t0 98 7 ∧ s205 98 8 = H195 ∧ s205 98 9 = H197 ∧ s205 101 18 = t0 101 18 ∧ s205 101 25 = t0 101 25 ∧ s205 101 43 = ((t0 101 43) + 1) ∧ s205 = h_up s202 101 43 ((t0 101 43) + 1)) => ?_))
                    refine h_aload_n (pc' := 161) rfl rfl rfl ?_
                    refine d_pcall (g_inj ns) (m1 := 54) (pc1' := 79) (M1 := [(0, .ref 63)]) (rest1 := []) (m2 := 148) (pc2' := 164) (M2 := [(0, .ref 98)]) (rest2 := []) ⟨false, _, _, _, _, _, _, rfl, rfl, rfl, rfl, rfl, rfl, rfl⟩ ⟨false, _, _, _, _, _, _, rfl, rfl, rfl, rfl, rfl, rfl, rfl⟩ hRw177 ?_
                    refine pp_step Is176 Is205 (hTL.fr (Fs176.mono rfl) (Fs205.mono rfl)) (by omega) (by omega) (by omega) (by omega) (Or.inr ⟨by omega, by omega⟩) (fun sq206 tq206 Isq206 Itq206 Gsq206 Gtq206 yq206_0 yq206_1 yq206_2 yq206_3 yq206_4 pcq206 memq206 hRq206 => ?_)
                    have Fsq206 := (Gsq206.mono (B := k_pl) rfl).tr Fs176
                    have Ftq206 := (Gtq206.mono (B := k_pm) rfl).tr Fs205
                    have esq206_6 : sq206 64 1 = s0 64 1 := (Gsq206 64 1 rfl).trans es176.2.2.2.2.2.2.1
                    have esq206_7 : sq206 66 8 = s0 66 8 := (Gsq206 66 8 rfl).trans es176.2.2.2.2.2.2.2.1
                    have esq206_8 : sq206 66 9 = s0 66 9 := (Gsq206 66 9 rfl).trans es176.2.2.2.2.2.2.2.2.1
                    have esq206_9 : sq206 66 10 = ((s0 66 10) + 1) := (Gsq206 66 10 rfl).trans es176.2.2.2.2.2.2.2.2.2.1
                    have esq206_10 : sq206 69 2 = s0 69 2 := (Gsq206 69 2 rfl).trans es176.2.2.2.2.2.2.2.2.2.2.1
                    have esq206_11 : sq206 72 2 = s0 72 2 := (Gsq206 72 2 rfl).trans es176.2.2.2.2.2.2.2.2.2.2.2.1
                    have esq206_12 : sq206 63 5 = s0 63 5 := (Gsq206 63 5 rfl).trans es176.2.2.2.2.2.2.2.2.2.2.2.2.1
                    have etq206_6 : tq206 98 5 = t0 98 5 := (Gtq206 98 5 rfl).trans es205.2.2.2.2.2.2.1
                    have etq206_7 : tq206 98 6 = t0 98 6 := (Gtq206 98 6 rfl).trans es205.2.2.2.2.2.2.2.1
                    have etq206_8 : tq206 98 7 = t0 98 7 := (Gtq206 98 7 rfl).trans es205.2.2.2.2.2.2.2.2.1
                    have etq206_9 : tq206 98 8 = H195 := (Gtq206 98 8 rfl).trans es205.2.2.2.2.2.2.2.2.2.1
                    have etq206_10 : tq206 98 9 = H197 := (Gtq206 98 9 rfl).trans es205.2.2.2.2.2.2.2.2.2.2.1
                    have etq206_11 : tq206 101 18 = t0 101 18 := (Gtq206 101 18 rfl).trans es205.2.2.2.2.2.2.2.2.2.2.2.1
                    have etq206_12 : tq206 101 25 = t0 101 25 := (Gtq206 101 25 rfl).trans es205.2.2.2.2.2.2.2.2.2.2.2.2.1
                    have etq206_13 : tq206 101 43 = ((t0 101 43) + 1) := (Gtq206 101 43 rfl).trans es205.2.2.2.2.2.2.2.2.2.2.2.2.2.1
                    show h_T g_P (g_Y ns) 152 164 [(0, .ref 98)] [] tq206 _
                    refine h_goto (pc' := 0) rfl rfl ?_
                    refine d_toL (g_inj ns) hlw177 hRq206 (fun lvw207 memw207 hlw207 hRw207 => ?_)
                    show h_T g_P (g_Y ns) 63 79 [(1, .int z115), (0, .ref 63)] [] sq206 _
                    refine h_vret rfl rfl (d_retn hlv114 ?_)
                    clear hz115
                    refine h_iinc (pc' := 50) (M := fun z208 => [(1, .int z208), (0, .ref 63)]) rfl rfl rfl rfl hx1 ci_1 rfl (by omega) (by omega) (fun _ => rfl) (fun z208 hz208 => ?_)
                    refine h_goto (pc' := 30) rfl rfl ?_
                    exact h_wk [(0, .ref 63), (1, .int z208)] ⟨rfl, rfl, trivial⟩ (ih _ _ Isq206 Itq206 Fsq206 Ftq206 z208 _ hz208  (by omega) (by omega) (by omega) (by omega) (by omega) (by omega) (by omega) (by omega) (by omega) (fun _ => d_mk (esq206_7) (esq206_8) (esq206_9) (esq206_10) (esq206_11) (esq206_12) (fun j => (Gsq206 67 j rfl).trans ((h_upo es176.2.2.2.2.2.2.2.2.2.2.2.2.2 rfl j).trans ((h_upo es173.2.2.2.2.2.2.2.2.2.2.2.2.2 rfl j)))) (fun j => (Gsq206 68 j rfl).trans ((h_upo es176.2.2.2.2.2.2.2.2.2.2.2.2.2 rfl j).trans ((h_upo es173.2.2.2.2.2.2.2.2.2.2.2.2.2 rfl j)))) (fun j => (Gsq206 70 j rfl).trans ((h_upo es176.2.2.2.2.2.2.2.2.2.2.2.2.2 rfl j).trans ((h_upo es173.2.2.2.2.2.2.2.2.2.2.2.2.2 rfl j)))) (fun j => (Gsq206 71 j rfl).trans ((h_upo es176.2.2.2.2.2.2.2.2.2.2.2.2.2 rfl j).trans ((h_upo es173.2.2.2.2.2.2.2.2.2.2.2.2.2 rfl j)))) (fun j => (Gsq206 73 j rfl).trans ((h_upo es176.2.2.2.2.2.2.2.2.2.2.2.2.2 rfl j).trans ((h_upo es173.2.2.2.2.2.2.2.2.2.2.2.2.2 rfl j)))) (fun j => (Gsq206 74 j rfl).trans ((h_upo es176.2.2.2.2.2.2.2.2.2.2.2.2.2 rfl j).trans ((h_upo es173.2.2.2.2.2.2.2.2.2.2.2.2.2 rfl j)))) (fun j => (Gsq206 75 j rfl).trans ((h_upo es176.2.2.2.2.2.2.2.2.2.2.2.2.2 rfl j).trans ((h_upo es173.2.2.2.2.2.2.2.2.2.2.2.2.2 rfl j)))) (fun j => (Gsq206 76 j rfl).trans ((h_upo es176.2.2.2.2.2.2.2.2.2.2.2.2.2 rfl j).trans ((h_upo es173.2.2.2.2.2.2.2.2.2.2.2.2.2 rfl j)))) (fun j => (Gsq206 77 j rfl).trans ((h_upo es176.2.2.2.2.2.2.2.2.2.2.2.2.2 rfl j).trans ((h_upo es173.2.2.2.2.2.2.2.2.2.2.2.2.2 rfl j)))) (fun j => (Gsq206 78 j rfl).trans ((h_upo es176.2.2.2.2.2.2.2.2.2.2.2.2.2 rfl j).trans ((h_upi es173.2.2.2.2.2.2.2.2.2.2.2.2.2 j)))) (etq206_6) (etq206_7) (etq206_8) (etq206_9) (etq206_10) (fun j => (Gtq206 101 j rfl).trans ((h_upi es205.2.2.2.2.2.2.2.2.2.2.2.2.2.2 j).trans (congrArg (fun z => if j = 43 then ((t0 101 43) + 1) else z) ((h_upi es202.2.2.2.2.2.2.2.2.2.2.2.2.2.2 j).trans (congrArg (fun z => if j = (35 + (t0 101 43)) then (t0 98 18) else z) ((h_upo es198.2.2.2.2.2.2.2.2.2.2.2.2.2.2 rfl j).trans ((h_upo es196.2.2.2.2.2.2.2.2.2.2.2.2.2.2 rfl j)))))))) (r_act (ex9 (by omega)) (by omega) (by omega) (by omega) (by omega) (by omega) (by omega) (by omega) (by omega) (by omega) (by omega) (by omega) (by omega) (by omega) (by omega) (by omega) (by omega) (by omega))) (pcq206.elim (fun pcq206 => (Or.inl ⟨by omega, by omega, by omega, by omega⟩)) (fun pcq206 => (pcq206.elim (fun pcq206 => (Or.inr (Or.inl ⟨by omega, by omega, by omega, by omega, by omega⟩))) (fun pcq206 => (pcq206.elim (fun pcq206 => (Or.inr (Or.inr (Or.inl ⟨by omega, by omega, by omega, by omega, by omega, by omega⟩)))) (fun pcq206 => (pcq206.elim (fun pcq206 => (Or.inr (Or.inr (Or.inr (Or.inl ⟨by omega, by omega, by omega, by omega, by omega, by omega, by omega, by omega, by omega⟩))))) (fun pcq206 => (Or.inr (Or.inr (Or.inr (Or.inr ⟨by omega, by omega, by omega, by omega, by omega, by omega⟩)))))))))))) (by omega) _ _ (h_al_ok ⟨rfl, trivial⟩ hlw207) hRw207)
                  · clear hz193
                    refine h_aload_n (pc' := 59) rfl rfl rfl ?_
                    refine h_iconst (pc' := 60) (x := (Int32.ofInt 3)) rfl rfl rfl ?_
                    refine h_call (sp := false) (pc' := 63) (M := [(0, .ref 98), (1, .int (Int32.ofInt 3))]) rfl rfl rfl rfl rfl rfl rfl rfl ?_
                    refine h_aload_n (pc' := 1) rfl rfl rfl ?_
                    refine h_getI (pc' := 4) (v := t0 98 13) rfl rfl rfl rfl rfl rfl (fun z209 hz209 => ?_)
                    refine h_zne (tg := 20) (pc' := 7) rfl rfl rfl hz209 (fun c210 => absurd c210 (by omega)) (fun c210 => ?_)
                    clear hz209
                    refine h_aload_n (pc' := 8) rfl rfl rfl ?_
                    refine h_iload_n (pc' := 9) rfl rfl rfl ?_
                    refine h_put (pc' := 12) rfl rfl rfl rfl rfl rfl ci_3 rfl (h_fgt (E := fun s => s 98 15 = t0 98 15 ∧ s 98 16 = t0 98 16 ∧ s 98 17 = t0 98 17 ∧ s 98 18 = t0 98 18 ∧ s 98 13 = 3 ∧ s 98 14 = t0 98 14 ∧ s 98 5 = t0 98 5 ∧ s 98 6 = t0 98 6 ∧ s 98 7 = t0 98 7 ∧ s 98 8 = t0 98 8 ∧ s 98 9 = t0 98 9 ∧ s 101 18 = t0 101 18 ∧ s 101 25 = t0 101 25 ∧ s 101 43 = t0 101 43 ∧ s = h_up t0 98 13 3) _ (if_98_13 J0 (by omega)) (H0_.up rfl) ⟨rfl, rfl, rfl, rfl, rfl, rfl, rfl, rfl, rfl, rfl, rfl, rfl, rfl, rfl, rfl⟩ (fun s211 Is211 Fs211 (es211 : s211 98 15 = t0 98 15 ∧ s211 98 16 = t0 98 16 ∧ s211 98 17 = t0 98 17 ∧ s211 98 18 = t0 98 18 ∧ s211 98 13 = 3 ∧ s211 98 14 = t0 98 14 ∧ s211 98 5 = t0 98 5 ∧ s211 98 6 = t0 98 6 ∧ s211 98 7 = t0 98 7 ∧ s211 98 8 = t0 98 8 ∧ s211 98 9 = t0 98 9 ∧ s211 101 18 = t0 101 18 ∧ s211 101 25 = t0 101 25 ∧ s211 101 43 = t0 101 43 ∧ s211 = h_up t0 98 13 3) => ?_))
                    refine h_aload_n (pc' := 13) rfl rfl rfl ?_
                    refine h_aload_n (pc' := 14) rfl rfl rfl ?_
                    refine h_getI (pc' := 17) (v := t0 98 16) rfl rfl rfl rfl rfl es211.2.1 (fun z212 hz212 => ?_)
                    have tz212 := tf_98_16 J0
                    refine h_put (pc' := 20) rfl rfl rfl rfl rfl rfl hz212 rfl (h_fgt (E := fun s => s 98 15 = t0 98 15 ∧ s 98 16 = t0 98 16 ∧ s 98 17 = t0 98 17 ∧ s 98 18 = t0 98 18 ∧ s 98 13 = 3 ∧ s 98 14 = (t0 98 16) ∧ s 98 5 = t0 98 5 ∧ s 98 6 = t0 98 6 ∧ s 98 7 = t0 98 7 ∧ s 98 8 = t0 98 8 ∧ s 98 9 = t0 98 9 ∧ s 101 18 = t0 101 18 ∧ s 101 25 = t0 101 25 ∧ s 101 43 = t0 101 43 ∧ s = h_up s211 98 14 (t0 98 16)) _ (if_98_14 Is211 (h_rgv hz212)) (Fs211.up rfl) ⟨es211.1, es211.2.1, es211.2.2.1, es211.2.2.2.1, es211.2.2.2.2.1, rfl, es211.2.2.2.2.2.2.1, es211.2.2.2.2.2.2.2.1, es211.2.2.2.2.2.2.2.2.1, es211.2.2.2.2.2.2.2.2.2.1, es211.2.2.2.2.2.2.2.2.2.2.1, es211.2.2.2.2.2.2.2.2.2.2.2.1, es211.2.2.2.2.2.2.2.2.2.2.2.2.1, es211.2.2.2.2.2.2.2.2.2.2.2.2.2.1, rfl⟩ (fun s213 Is213 Fs213 (es213 : s213 98 15 = t0 98 15 ∧ s213 98 16 = t0 98 16 ∧ s213 98 17 = t0 98 17 ∧ s213 98 18 = t0 98 18 ∧ s213 98 13 = 3 ∧ s213 98 14 = (t0 98 16) ∧ s213 98 5 = t0 98 5 ∧ s213 98 6 = t0 98 6 ∧ s213 98 7 = t0 98 7 ∧ s213 98 8 = t0 98 8 ∧ s213 98 9 = t0 98 9 ∧ s213 101 18 = t0 101 18 ∧ s213 101 25 = t0 101 25 ∧ s213 101 43 = t0 101 43 ∧ s213 = h_up s211 98 14 (t0 98 16)) => ?_))
                    refine h_vret rfl rfl (h_Kn ?_)
                    refine h_goto (pc' := 0) rfl rfl ?_
                    exfalso
                    omega
              · clear hz182
                refine h_aload_n (pc' := 28) rfl rfl rfl ?_
                refine h_iconst (pc' := 29) (x := (Int32.ofInt 5)) rfl rfl rfl ?_
                refine h_call (sp := false) (pc' := 32) (M := [(0, .ref 98), (1, .int (Int32.ofInt 5))]) rfl rfl rfl rfl rfl rfl rfl rfl ?_
                refine h_aload_n (pc' := 1) rfl rfl rfl ?_
                refine h_getI (pc' := 4) (v := t0 98 13) rfl rfl rfl rfl rfl rfl (fun z214 hz214 => ?_)
                refine h_zne (tg := 20) (pc' := 7) rfl rfl rfl hz214 (fun c215 => absurd c215 (by omega)) (fun c215 => ?_)
                clear hz214
                refine h_aload_n (pc' := 8) rfl rfl rfl ?_
                refine h_iload_n (pc' := 9) rfl rfl rfl ?_
                refine h_put (pc' := 12) rfl rfl rfl rfl rfl rfl ci_5 rfl (h_fgt (E := fun s => s 98 15 = t0 98 15 ∧ s 98 16 = t0 98 16 ∧ s 98 17 = t0 98 17 ∧ s 98 18 = t0 98 18 ∧ s 98 13 = 5 ∧ s 98 14 = t0 98 14 ∧ s 98 5 = t0 98 5 ∧ s 98 6 = t0 98 6 ∧ s 98 7 = t0 98 7 ∧ s 98 8 = t0 98 8 ∧ s 98 9 = t0 98 9 ∧ s 101 18 = t0 101 18 ∧ s 101 25 = t0 101 25 ∧ s 101 43 = t0 101 43 ∧ s = h_up t0 98 13 5) _ (if_98_13 J0 (by omega)) (H0_.up rfl) ⟨rfl, rfl, rfl, rfl, rfl, rfl, rfl, rfl, rfl, rfl, rfl, rfl, rfl, rfl, rfl⟩ (fun s216 Is216 Fs216 (es216 : s216 98 15 = t0 98 15 ∧ s216 98 16 = t0 98 16 ∧ s216 98 17 = t0 98 17 ∧ s216 98 18 = t0 98 18 ∧ s216 98 13 = 5 ∧ s216 98 14 = t0 98 14 ∧ s216 98 5 = t0 98 5 ∧ s216 98 6 = t0 98 6 ∧ s216 98 7 = t0 98 7 ∧ s216 98 8 = t0 98 8 ∧ s216 98 9 = t0 98 9 ∧ s216 101 18 = t0 101 18 ∧ s216 101 25 = t0 101 25 ∧ s216 101 43 = t0 101 43 ∧ s216 = h_up t0 98 13 5) => ?_))
                refine h_aload_n (pc' := 13) rfl rfl rfl ?_
                refine h_aload_n (pc' := 14) rfl rfl rfl ?_
                refine h_getI (pc' := 17) (v := t0 98 16) rfl rfl rfl rfl rfl es216.2.1 (fun z217 hz217 => ?_)
                have tz217 := tf_98_16 J0
                refine h_put (pc' := 20) rfl rfl rfl rfl rfl rfl hz217 rfl (h_fgt (E := fun s => s 98 15 = t0 98 15 ∧ s 98 16 = t0 98 16 ∧ s 98 17 = t0 98 17 ∧ s 98 18 = t0 98 18 ∧ s 98 13 = 5 ∧ s 98 14 = (t0 98 16) ∧ s 98 5 = t0 98 5 ∧ s 98 6 = t0 98 6 ∧ s 98 7 = t0 98 7 ∧ s 98 8 = t0 98 8 ∧ s 98 9 = t0 98 9 ∧ s 101 18 = t0 101 18 ∧ s 101 25 = t0 101 25 ∧ s 101 43 = t0 101 43 ∧ s = h_up s216 98 14 (t0 98 16)) _ (if_98_14 Is216 (h_rgv hz217)) (Fs216.up rfl) ⟨es216.1, es216.2.1, es216.2.2.1, es216.2.2.2.1, es216.2.2.2.2.1, rfl, es216.2.2.2.2.2.2.1, es216.2.2.2.2.2.2.2.1, es216.2.2.2.2.2.2.2.2.1, es216.2.2.2.2.2.2.2.2.2.1, es216.2.2.2.2.2.2.2.2.2.2.1, es216.2.2.2.2.2.2.2.2.2.2.2.1, es216.2.2.2.2.2.2.2.2.2.2.2.2.1, es216.2.2.2.2.2.2.2.2.2.2.2.2.2.1, rfl⟩ (fun s218 Is218 Fs218 (es218 : s218 98 15 = t0 98 15 ∧ s218 98 16 = t0 98 16 ∧ s218 98 17 = t0 98 17 ∧ s218 98 18 = t0 98 18 ∧ s218 98 13 = 5 ∧ s218 98 14 = (t0 98 16) ∧ s218 98 5 = t0 98 5 ∧ s218 98 6 = t0 98 6 ∧ s218 98 7 = t0 98 7 ∧ s218 98 8 = t0 98 8 ∧ s218 98 9 = t0 98 9 ∧ s218 101 18 = t0 101 18 ∧ s218 101 25 = t0 101 25 ∧ s218 101 43 = t0 101 43 ∧ s218 = h_up s216 98 14 (t0 98 16)) => ?_))
                refine h_vret rfl rfl (h_Kn ?_)
                refine h_goto (pc' := 0) rfl rfl ?_
                exfalso
                omega
            · clear hz168
              refine h_aload_n (pc' := 53) rfl rfl rfl ?_
              refine h_iconst (pc' := 54) (x := (Int32.ofInt 3)) rfl rfl rfl ?_
              refine h_aload_n (pc' := 55) rfl rfl rfl ?_
              refine h_getR (pc' := 58) rfl rfl rfl rfl rfl ?_
              refine h_getI (pc' := 61) (v := s0 64 4) rfl rfl rfl rfl rfl rfl (fun z219 hz219 => ?_)
              have tz219 := tf_64_4 I0
              refine h_call (sp := false) (pc' := 64) (M := [(0, .ref 63), (1, .int (Int32.ofInt 3)), (2, .int z219)]) rfl rfl rfl rfl rfl rfl rfl rfl ?_
              refine h_aload_n (pc' := 1) rfl rfl rfl ?_
              refine h_getI (pc' := 4) (v := s0 63 2) rfl rfl rfl rfl rfl rfl (fun z220 hz220 => ?_)
              refine h_zne (tg := 17) (pc' := 7) rfl rfl rfl hz220 (fun c221 => absurd c221 (by omega)) (fun c221 => ?_)
              clear hz220
              refine h_aload_n (pc' := 8) rfl rfl rfl ?_
              refine h_iload_n (pc' := 9) rfl rfl rfl ?_
              refine h_put (pc' := 12) rfl rfl rfl rfl rfl rfl ci_3 rfl (h_fgt (E := fun s => s 64 2 = s0 64 2 ∧ s 64 4 = s0 64 4 ∧ s 64 3 = s0 64 3 ∧ s 64 5 = s0 64 5 ∧ s 63 2 = 3 ∧ s 63 3 = s0 63 3 ∧ s 64 1 = s0 64 1 ∧ s 66 8 = s0 66 8 ∧ s 66 9 = s0 66 9 ∧ s 66 10 = s0 66 10 ∧ s 69 2 = s0 69 2 ∧ s 72 2 = s0 72 2 ∧ s 63 5 = s0 63 5 ∧ s = h_up s0 63 2 3) _ (if_63_2 I0 (by omega)) (F0_.up rfl) ⟨rfl, rfl, rfl, rfl, rfl, rfl, rfl, rfl, rfl, rfl, rfl, rfl, rfl, rfl⟩ (fun s222 Is222 Fs222 (es222 : s222 64 2 = s0 64 2 ∧ s222 64 4 = s0 64 4 ∧ s222 64 3 = s0 64 3 ∧ s222 64 5 = s0 64 5 ∧ s222 63 2 = 3 ∧ s222 63 3 = s0 63 3 ∧ s222 64 1 = s0 64 1 ∧ s222 66 8 = s0 66 8 ∧ s222 66 9 = s0 66 9 ∧ s222 66 10 = s0 66 10 ∧ s222 69 2 = s0 69 2 ∧ s222 72 2 = s0 72 2 ∧ s222 63 5 = s0 63 5 ∧ s222 = h_up s0 63 2 3) => ?_))
              refine h_aload_n (pc' := 13) rfl rfl rfl ?_
              refine h_iload_n (pc' := 14) rfl rfl rfl ?_
              refine h_put (pc' := 17) rfl rfl rfl rfl rfl rfl hz219 rfl (h_fgt (E := fun s => s 64 2 = s0 64 2 ∧ s 64 4 = s0 64 4 ∧ s 64 3 = s0 64 3 ∧ s 64 5 = s0 64 5 ∧ s 63 2 = 3 ∧ s 63 3 = (s0 64 4) ∧ s 64 1 = s0 64 1 ∧ s 66 8 = s0 66 8 ∧ s 66 9 = s0 66 9 ∧ s 66 10 = s0 66 10 ∧ s 69 2 = s0 69 2 ∧ s 72 2 = s0 72 2 ∧ s 63 5 = s0 63 5 ∧ s = h_up s222 63 3 (s0 64 4)) _ (if_63_3 Is222 (h_rgv hz219)) (Fs222.up rfl) ⟨es222.1, es222.2.1, es222.2.2.1, es222.2.2.2.1, es222.2.2.2.2.1, rfl, es222.2.2.2.2.2.2.1, es222.2.2.2.2.2.2.2.1, es222.2.2.2.2.2.2.2.2.1, es222.2.2.2.2.2.2.2.2.2.1, es222.2.2.2.2.2.2.2.2.2.2.1, es222.2.2.2.2.2.2.2.2.2.2.2.1, es222.2.2.2.2.2.2.2.2.2.2.2.2.1, rfl⟩ (fun s223 Is223 Fs223 (es223 : s223 64 2 = s0 64 2 ∧ s223 64 4 = s0 64 4 ∧ s223 64 3 = s0 64 3 ∧ s223 64 5 = s0 64 5 ∧ s223 63 2 = 3 ∧ s223 63 3 = (s0 64 4) ∧ s223 64 1 = s0 64 1 ∧ s223 66 8 = s0 66 8 ∧ s223 66 9 = s0 66 9 ∧ s223 66 10 = s0 66 10 ∧ s223 69 2 = s0 69 2 ∧ s223 72 2 = s0 72 2 ∧ s223 63 5 = s0 63 5 ∧ s223 = h_up s222 63 3 (s0 64 4)) => ?_))
              refine h_vret rfl rfl (h_Kn ?_)
              refine h_goto (pc' := 79) rfl rfl ?_
              refine h_vret rfl rfl (d_retn hlv114 ?_)
              clear hz115
              refine h_iinc (pc' := 50) (M := fun z224 => [(1, .int z224), (0, .ref 63)]) rfl rfl rfl rfl hx1 ci_1 rfl (by omega) (by omega) (fun _ => rfl) (fun z224 hz224 => ?_)
              refine h_goto (pc' := 30) rfl rfl ?_
              refine d_toM (g_inj ns) hl2 hR2 (fun lvw225 memw225 hlw225 hRw225 => ?_)
              show h_T g_P (g_Y ns) 152 0 [(0, .ref 98)] [] t0 _
              refine h_aload_n (pc' := 1) rfl rfl rfl ?_
              refine h_getI (pc' := 4) (v := t0 98 13) rfl rfl rfl rfl rfl rfl (fun z226 hz226 => ?_)
              have tz226 := tf_98_13 J0
              refine h_zne (tg := 167) (pc' := 7) rfl rfl rfl hz226 (fun c227 => absurd c227 (by omega)) (fun c227 => ?_)
              clear hz226
              refine h_aload_n (pc' := 8) rfl rfl rfl ?_
              refine h_getI (pc' := 11) (v := t0 98 17) rfl rfl rfl rfl rfl rfl (fun z228 hz228 => ?_)
              have tz228 := tf_98_17 J0
              refine h_iconst (pc' := 12) (x := (Int32.ofInt 2)) rfl rfl rfl ?_
              refine h_cne (tg := 167) (pc' := 15) rfl rfl rfl hz228 ci_2 (fun c229 => absurd c229 (by omega)) (fun c229 => ?_)
              clear hz228
              refine h_aload_n (pc' := 16) rfl rfl rfl ?_
              refine h_getR (pc' := 19) rfl rfl rfl rfl rfl ?_
              refine h_bipush (pc' := 21) (x := (Int32.ofInt 43)) rfl rfl cb_43 ?_
              refine h_iald (pc' := 22) (v := t0 101 43) rfl rfl rfl ci_43 (by omega) (by omega) rfl (fun z230 hz230 => ?_)
              have tz230 := ty_101_10 J0 43 (by omega)
              refine h_bipush (pc' := 24) (x := (Int32.ofInt 8)) rfl rfl cb_8 ?_
              refine h_cne (tg := 35) (pc' := 27) rfl rfl rfl hz230 ci_8 (fun c231 => ?_) (fun c231 => ?_)
              · clear hz230
                refine h_aload_n (pc' := 36) rfl rfl rfl ?_
                refine h_getI (pc' := 39) (v := t0 98 18) rfl rfl rfl rfl rfl rfl (fun z232 hz232 => ?_)
                have tz232 := tf_98_18 J0
                refine h_bipush (pc' := 41) (x := (Int32.ofInt 10)) rfl rfl cb_10 ?_
                refine h_idiv (pc' := 42) rfl rfl hz232 ci_10 (by omega) (by omega) (fun z233 hz233 => ?_)
                clear hz232
                refine h_bipush (pc' := 44) (x := (Int32.ofInt 6)) rfl rfl cb_6 ?_
                refine h_cge (tg := 58) (pc' := 47) rfl rfl rfl hz233 ci_6 (fun c234 => ?_) (fun c234 => ?_)
                · clear hz233
                  refine h_aload_n (pc' := 59) rfl rfl rfl ?_
                  refine h_iconst (pc' := 60) (x := (Int32.ofInt 3)) rfl rfl rfl ?_
                  refine h_call (sp := false) (pc' := 63) (M := [(0, .ref 98), (1, .int (Int32.ofInt 3))]) rfl rfl rfl rfl rfl rfl rfl rfl ?_
                  refine h_aload_n (pc' := 1) rfl rfl rfl ?_
                  refine h_getI (pc' := 4) (v := t0 98 13) rfl rfl rfl rfl rfl rfl (fun z235 hz235 => ?_)
                  refine h_zne (tg := 20) (pc' := 7) rfl rfl rfl hz235 (fun c236 => absurd c236 (by omega)) (fun c236 => ?_)
                  clear hz235
                  refine h_aload_n (pc' := 8) rfl rfl rfl ?_
                  refine h_iload_n (pc' := 9) rfl rfl rfl ?_
                  refine h_put (pc' := 12) rfl rfl rfl rfl rfl rfl ci_3 rfl (h_fgt (E := fun s => s 98 15 = t0 98 15 ∧ s 98 16 = t0 98 16 ∧ s 98 17 = t0 98 17 ∧ s 98 18 = t0 98 18 ∧ s 98 13 = 3 ∧ s 98 14 = t0 98 14 ∧ s 98 5 = t0 98 5 ∧ s 98 6 = t0 98 6 ∧ s 98 7 = t0 98 7 ∧ s 98 8 = t0 98 8 ∧ s 98 9 = t0 98 9 ∧ s 101 18 = t0 101 18 ∧ s 101 25 = t0 101 25 ∧ s 101 43 = t0 101 43 ∧ s = h_up t0 98 13 3) _ (if_98_13 J0 (by omega)) (H0_.up rfl) ⟨rfl, rfl, rfl, rfl, rfl, rfl, rfl, rfl, rfl, rfl, rfl, rfl, rfl, rfl, rfl⟩ (fun s237 Is237 Fs237 (es237 : s237 98 15 = t0 98 15 ∧ s237 98 16 = t0 98 16 ∧ s237 98 17 = t0 98 17 ∧ s237 98 18 = t0 98 18 ∧ s237 98 13 = 3 ∧ s237 98 14 = t0 98 14 ∧ s237 98 5 = t0 98 5 ∧ s237 98 6 = t0 98 6 ∧ s237 98 7 = t0 98 7 ∧ s237 98 8 = t0 98 8 ∧ s237 98 9 = t0 98 9 ∧ s237 101 18 = t0 101 18 ∧ s237 101 25 = t0 101 25 ∧ s237 101 43 = t0 101 43 ∧ s237 = h_up t0 98 13 3) => ?_))
                  refine h_aload_n (pc' := 13) rfl rfl rfl ?_
                  refine h_aload_n (pc' := 14) rfl rfl rfl ?_
                  refine h_getI (pc' := 17) (v := t0 98 16) rfl rfl rfl rfl rfl es237.2.1 (fun z238 hz238 => ?_)
                  have tz238 := tf_98_16 J0
                  refine h_put (pc' := 20) rfl rfl rfl rfl rfl rfl hz238 rfl (h_fgt (E := fun s => s 98 15 = t0 98 15 ∧ s 98 16 = t0 98 16 ∧ s 98 17 = t0 98 17 ∧ s 98 18 = t0 98 18 ∧ s 98 13 = 3 ∧ s 98 14 = (t0 98 16) ∧ s 98 5 = t0 98 5 ∧ s 98 6 = t0 98 6 ∧ s 98 7 = t0 98 7 ∧ s 98 8 = t0 98 8 ∧ s 98 9 = t0 98 9 ∧ s 101 18 = t0 101 18 ∧ s 101 25 = t0 101 25 ∧ s 101 43 = t0 101 43 ∧ s = h_up s237 98 14 (t0 98 16)) _ (if_98_14 Is237 (h_rgv hz238)) (Fs237.up rfl) ⟨es237.1, es237.2.1, es237.2.2.1, es237.2.2.2.1, es237.2.2.2.2.1, rfl, es237.2.2.2.2.2.2.1, es237.2.2.2.2.2.2.2.1, es237.2.2.2.2.2.2.2.2.1, es237.2.2.2.2.2.2.2.2.2.1, es237.2.2.2.2.2.2.2.2.2.2.1, es237.2.2.2.2.2.2.2.2.2.2.2.1, es237.2.2.2.2.2.2.2.2.2.2.2.2.1, es237.2.2.2.2.2.2.2.2.2.2.2.2.2.1, rfl⟩ (fun s239 Is239 Fs239 (es239 : s239 98 15 = t0 98 15 ∧ s239 98 16 = t0 98 16 ∧ s239 98 17 = t0 98 17 ∧ s239 98 18 = t0 98 18 ∧ s239 98 13 = 3 ∧ s239 98 14 = (t0 98 16) ∧ s239 98 5 = t0 98 5 ∧ s239 98 6 = t0 98 6 ∧ s239 98 7 = t0 98 7 ∧ s239 98 8 = t0 98 8 ∧ s239 98 9 = t0 98 9 ∧ s239 101 18 = t0 101 18 ∧ s239 101 25 = t0 101 25 ∧ s239 101 43 = t0 101 43 ∧ s239 = h_up s237 98 14 (t0 98 16)) => ?_))
                  refine h_vret rfl rfl (h_Kn ?_)
                  refine h_goto (pc' := 0) rfl rfl ?_
                  refine d_toL (g_inj ns) hlw225 hRw225 (fun lvw240 memw240 hlw240 hRw240 => ?_)
                  show h_T g_P (g_Y ns) 62 30 [(1, .int z224), (0, .ref 63)] [] s223 _
                  exact h_wk [(0, .ref 63), (1, .int z224)] ⟨rfl, rfl, trivial⟩ (ih _ _ Is223 Is239 Fs223 Fs239 z224 _ hz224  (by omega) (by omega) (by omega) (by omega) (by omega) (by omega) (by omega) (by omega) (by omega) (fun h => absurd h (by omega)) (Or.inl ⟨by omega, by omega, by omega, by omega⟩) (by omega) _ _ (h_al_ok ⟨rfl, trivial⟩ hlw240) hRw240)
                · clear hz233
                  refine h_aload_n (pc' := 48) rfl rfl rfl ?_
                  refine h_getI (pc' := 51) (v := t0 98 18) rfl rfl rfl rfl rfl rfl (fun z241 hz241 => ?_)
                  refine h_bipush (pc' := 53) (x := (Int32.ofInt 10)) rfl rfl cb_10 ?_
                  refine h_irem (pc' := 54) rfl rfl hz241 ci_10 (by omega) (by omega) (fun z242 hz242 => ?_)
                  clear hz241
                  refine h_iconst (pc' := 55) (x := (Int32.ofInt 3)) rfl rfl rfl ?_
                  refine h_clt (tg := 66) (pc' := 58) rfl rfl rfl hz242 ci_3 (fun c243 => ?_) (fun c243 => ?_)
                  · clear hz242
                    have gH244 : 0 ≤ t0 98 18 ∧ t0 98 18 ≤ 99 := by have ga := tf_98_18 J0; omega
                    have oH244 : t0 98 8 = t0 98 8 := rfl
                    have vH244 : t0 98 18 = t0 98 18 := rfl
                    have uH244 := tf_98_8 J0
                    refine h_wk [(0, .ref 98)] ⟨rfl, trivial⟩ (lm_ho _ J0 (by omega) (fun H244 hH244 => (h_fgt (E := fun s => s 98 15 = t0 98 15 ∧ s 98 16 = t0 98 16 ∧ s 98 17 = t0 98 17 ∧ s 98 18 = t0 98 18 ∧ s 98 13 = t0 98 13 ∧ s 98 14 = t0 98 14 ∧ s 98 5 = t0 98 5 ∧ s 98 6 = t0 98 6 ∧ s 98 7 = t0 98 7 ∧ s 98 8 = H244 ∧ s 98 9 = t0 98 9 ∧ s 101 18 = t0 101 18 ∧ s 101 25 = t0 101 25 ∧ s 101 43 = t0 101 43 ∧ s = h_up t0 98 8 H244) _ (if_98_8 J0 (by omega)) (H0_.up rfl) ⟨rfl, rfl, rfl, rfl, rfl, rfl, rfl, rfl, rfl, rfl, rfl, rfl, rfl, rfl, rfl⟩ (fun s245 Is245 Fs245 (es245 : s245 98 15 = t0 98 15 ∧ s245 98 16 = t0 98 16 ∧ s245 98 17 = t0 98 17 ∧ s245 98 18 = t0 98 18 ∧ s245 98 13 = t0 98 13 ∧ s245 98 14 = t0 98 14 ∧ s245 98 5 = t0 98 5 ∧ s245 98 6 = t0 98 6 ∧ s245 98 7 = t0 98 7 ∧ s245 98 8 = H244 ∧ s245 98 9 = t0 98 9 ∧ s245 101 18 = t0 101 18 ∧ s245 101 25 = t0 101 25 ∧ s245 101 43 = t0 101 43 ∧ s245 = h_up t0 98 8 H244) => ?_))))
                    have gH246 : 0 ≤ s245 98 18 ∧ s245 98 18 ≤ 99 := by have ga := es245.2.2.2.1; omega
                    have oH246 : s245 98 9 = t0 98 9 := es245.2.2.2.2.2.2.2.2.2.2.1
                    have vH246 : s245 98 18 = t0 98 18 := es245.2.2.2.1
                    have uH246 := tf_98_9 Is245
                    refine h_wk [(0, .ref 98)] ⟨rfl, trivial⟩ (lm_hg _ Is245 (by omega) (fun H246 hH246 => (h_fgt (E := fun s => s 98 15 = t0 98 15 ∧ s 98 16 = t0 98 16 ∧ s 98 17 = t0 98 17 ∧ s 98 18 = t0 98 18 ∧ s 98 13 = t0 98 13 ∧ s 98 14 = t0 98 14 ∧ s 98 5 = t0 98 5 ∧ s 98 6 = t0 98 6 ∧ s 98 7 = t0 98 7 ∧ s 98 8 = H244 ∧ s 98 9 = H246 ∧ s 101 18 = t0 101 18 ∧ s 101 25 = t0 101 25 ∧ s 101 43 = t0 101 43 ∧ s = h_up s245 98 9 H246) _ (if_98_9 Is245 (by omega)) (Fs245.up rfl) ⟨es245.1, es245.2.1, es245.2.2.1, es245.2.2.2.1, es245.2.2.2.2.1, es245.2.2.2.2.2.1, es245.2.2.2.2.2.2.1, es245.2.2.2.2.2.2.2.1, es245.2.2.2.2.2.2.2.2.1, es245.2.2.2.2.2.2.2.2.2.1, rfl, es245.2.2.2.2.2.2.2.2.2.2.2.1, es245.2.2.2.2.2.2.2.2.2.2.2.2.1, es245.2.2.2.2.2.2.2.2.2.2.2.2.2.1, rfl⟩ (fun s247 Is247 Fs247 (es247 : s247 98 15 = t0 98 15 ∧ s247 98 16 = t0 98 16 ∧ s247 98 17 = t0 98 17 ∧ s247 98 18 = t0 98 18 ∧ s247 98 13 = t0 98 13 ∧ s247 98 14 = t0 98 14 ∧ s247 98 5 = t0 98 5 ∧ s247 98 6 = t0 98 6 ∧ s247 98 7 = t0 98 7 ∧ s247 98 8 = H244 ∧ s247 98 9 = H246 ∧ s247 101 18 = t0 101 18 ∧ s247 101 25 = t0 101 25 ∧ s247 101 43 = t0 101 43 ∧ s247 = h_up s245 98 9 H246) => ?_))))
                    refine h_aload_n (pc' := 131) rfl rfl rfl ?_
                    refine h_getR (pc' := 134) rfl rfl rfl rfl rfl ?_
                    refine h_bipush (pc' := 136) (x := (Int32.ofInt 35)) rfl rfl cb_35 ?_
                    refine h_aload_n (pc' := 137) rfl rfl rfl ?_
                    refine h_getR (pc' := 140) rfl rfl rfl rfl rfl ?_
                    refine h_bipush (pc' := 142) (x := (Int32.ofInt 43)) rfl rfl cb_43 ?_
                    refine h_iald (pc' := 143) (v := t0 101 43) rfl rfl rfl ci_43 (by omega) (by omega) es247.2.2.2.2.2.2.2.2.2.2.2.2.2.1 (fun z248 hz248 => ?_)
                    refine h_iadd (pc' := 144) rfl rfl ci_35 hz248 rfl (by omega) (by omega) (fun z249 hz249 => ?_)
                    clear hz248
                    refine h_aload_n (pc' := 145) rfl rfl rfl ?_
                    refine h_getI (pc' := 148) (v := t0 98 18) rfl rfl rfl rfl rfl es247.2.2.2.1 (fun z250 hz250 => ?_)
                    refine h_iast (pc' := 149) rfl rfl rfl rfl hz249 (by omega) (by omega) hz250 (h_fgt (E := fun s => s 98 15 = t0 98 15 ∧ s 98 16 = t0 98 16 ∧ s 98 17 = t0 98 17 ∧ s 98 18 = t0 98 18 ∧ s 98 13 = t0 98 13 ∧ s 98 14 = t0 98 14 ∧ s 98 5 = t0 98 5 ∧ s 98 6 = t0 98 6 ∧ s 98 7 = t0 98 7 ∧ s 98 8 = H244 ∧ s 98 9 = H246 ∧ s 101 18 = t0 101 18 ∧ s 101 25 = t0 101 25 ∧ s 101 43 = t0 101 43 ∧ s = h_up s247 101 (35 + (t0 101 43)) (t0 98 18)) _ (ip_101_9 Is247 (by omega) (by omega)) (Fs247.up rfl) ⟨es247.1, es247.2.1, es247.2.2.1, es247.2.2.2.1, es247.2.2.2.2.1, es247.2.2.2.2.2.1, es247.2.2.2.2.2.2.1, es247.2.2.2.2.2.2.2.1, es247.2.2.2.2.2.2.2.2.1, es247.2.2.2.2.2.2.2.2.2.1, es247.2.2.2.2.2.2.2.2.2.2.1, h_up_n2 (by omega) es247.2.2.2.2.2.2.2.2.2.2.2.1, h_up_n2 (by omega) es247.2.2.2.2.2.2.2.2.2.2.2.2.1, h_up_n2 (by omega) es247.2.2.2.2.2.2.2.2.2.2.2.2.2.1, rfl⟩ (fun s251 Is251 Fs251 (es251 : s251 98 15 = t0 98 15 ∧ s251 98 16 = t0 98 16 ∧ s251 98 17 = t0 98 17 ∧ s251 98 18 = t0 98 18 ∧ s251 98 13 = t0 98 13 ∧ s251 98 14 = t0 98 14 ∧ s251 98 5 = t0 98 5 ∧ s251 98 6 = t0 98 6 ∧ s251 98 7 = t0 98 7 ∧ s251 98 8 = H244 ∧ s251 98 9 = H246 ∧ s251 101 18 = t0 101 18 ∧ s251 101 25 = t0 101 25 ∧ s251 101 43 = t0 101 43 ∧ s251 = h_up s247 101 (35 + (t0 101 43)) (t0 98 18)) => ?_))
                    clear hz249 hz250
                    refine h_aload_n (pc' := 150) rfl rfl rfl ?_
                    refine h_getR (pc' := 153) rfl rfl rfl rfl rfl ?_
                    refine h_bipush (pc' := 155) (x := (Int32.ofInt 43)) rfl rfl cb_43 ?_
                    refine h_dup2 (pc' := 156) rfl rfl rfl ?_
                    refine h_iald (pc' := 157) (v := t0 101 43) rfl rfl rfl ci_43 (by omega) (by omega) es251.2.2.2.2.2.2.2.2.2.2.2.2.2.1 (fun z252 hz252 => ?_)
                    refine h_iconst (pc' := 158) (x := (Int32.ofInt 1)) rfl rfl rfl ?_
                    refine h_iadd (pc' := 159) rfl rfl hz252 ci_1 rfl (by omega) (by omega) (fun z253 hz253 => ?_)
                    clear hz252
                    refine h_iast (pc' := 160) rfl rfl rfl rfl ci_43 (by omega) (by omega) hz253 (h_fgt (E := fun s => s 98 15 = t0 98 15 ∧ s 98 16 = t0 98 16 ∧ s 98 17 = t0 98 17 ∧ s 98 18 = t0 98 18 ∧ s 98 13 = t0 98 13 ∧ s 98 14 = t0 98 14 ∧ s 98 5 = t0 98 5 ∧ s 98 6 = t0 98 6 ∧ s 98 7 = t0 98 7 ∧ s 98 8 = H244 ∧ s 98 9 = H246 ∧ s 101 18 = t0 101 18 ∧ s 101 25 = t0 101 25 ∧ s 101 43 = ((t0 101 43) + 1) ∧ s = h_up s251 101 43 ((t0 101 43) + 1)) _ (ip_101_10 Is251 (by omega) (by omega)) (Fs251.up rfl) ⟨es251.1, es251.2.1, es251.2.2.1, es251.2.2.2.1, es251.2.2.2.2.1, es251.2.2.2.2.2.1, es251.2.2.2.2.2.2.1, es251.2.2.2.2.2.2.2.1, es251.2.2.2.2.2.2.2.2.1, es251.2.2.2.2.2.2.2.2.2.1, es251.2.2.2.2.2.2.2.2.2.2.1, es251.2.2.2.2.2.2.2.2.2.2.2.1, es251.2.2.2.2.2.2.2.2.2.2.2.2.1, rfl, rfl⟩ (fun s254 Is254 Fs254 (es254 : s254 98 15 = t0 98 15 ∧ s254 98 16 = t0 98 16 ∧ s254 98 17 = t0 98 17 ∧ s254 98 18 = t0 98 18 ∧ s254 98 13 = t0 98 13 ∧ s254 98 14 = t0 98 14 ∧ s254 98 5 = t0 98 5 ∧ s254 98 6 = t0 98 6 ∧ s254 98 7 = t0 98 7 ∧ s254 98 8 = H244 ∧ s254 98 9 = H246 ∧ s254 101 18 = t0 101 18 ∧ s254 101 25 = t0 101 25 ∧ s254 101 43 = ((t0 101 43) + 1) ∧ s254 = h_up s251 101 43 ((t0 101 43) + 1)) => ?_))
                    refine h_aload_n (pc' := 161) rfl rfl rfl ?_
                    exfalso
                    omega
                  · clear hz242
                    refine h_aload_n (pc' := 59) rfl rfl rfl ?_
                    refine h_iconst (pc' := 60) (x := (Int32.ofInt 3)) rfl rfl rfl ?_
                    refine h_call (sp := false) (pc' := 63) (M := [(0, .ref 98), (1, .int (Int32.ofInt 3))]) rfl rfl rfl rfl rfl rfl rfl rfl ?_
                    refine h_aload_n (pc' := 1) rfl rfl rfl ?_
                    refine h_getI (pc' := 4) (v := t0 98 13) rfl rfl rfl rfl rfl rfl (fun z255 hz255 => ?_)
                    refine h_zne (tg := 20) (pc' := 7) rfl rfl rfl hz255 (fun c256 => absurd c256 (by omega)) (fun c256 => ?_)
                    clear hz255
                    refine h_aload_n (pc' := 8) rfl rfl rfl ?_
                    refine h_iload_n (pc' := 9) rfl rfl rfl ?_
                    refine h_put (pc' := 12) rfl rfl rfl rfl rfl rfl ci_3 rfl (h_fgt (E := fun s => s 98 15 = t0 98 15 ∧ s 98 16 = t0 98 16 ∧ s 98 17 = t0 98 17 ∧ s 98 18 = t0 98 18 ∧ s 98 13 = 3 ∧ s 98 14 = t0 98 14 ∧ s 98 5 = t0 98 5 ∧ s 98 6 = t0 98 6 ∧ s 98 7 = t0 98 7 ∧ s 98 8 = t0 98 8 ∧ s 98 9 = t0 98 9 ∧ s 101 18 = t0 101 18 ∧ s 101 25 = t0 101 25 ∧ s 101 43 = t0 101 43 ∧ s = h_up t0 98 13 3) _ (if_98_13 J0 (by omega)) (H0_.up rfl) ⟨rfl, rfl, rfl, rfl, rfl, rfl, rfl, rfl, rfl, rfl, rfl, rfl, rfl, rfl, rfl⟩ (fun s257 Is257 Fs257 (es257 : s257 98 15 = t0 98 15 ∧ s257 98 16 = t0 98 16 ∧ s257 98 17 = t0 98 17 ∧ s257 98 18 = t0 98 18 ∧ s257 98 13 = 3 ∧ s257 98 14 = t0 98 14 ∧ s257 98 5 = t0 98 5 ∧ s257 98 6 = t0 98 6 ∧ s257 98 7 = t0 98 7 ∧ s257 98 8 = t0 98 8 ∧ s257 98 9 = t0 98 9 ∧ s257 101 18 = t0 101 18 ∧ s257 101 25 = t0 101 25 ∧ s257 101 43 = t0 101 43 ∧ s257 = h_up t0 98 13 3) => ?_))
                    refine h_aload_n (pc' := 13) rfl rfl rfl ?_
                    refine h_aload_n (pc' := 14) rfl rfl rfl ?_
                    refine h_getI (pc' := 17) (v := t0 98 16) rfl rfl rfl rfl rfl es257.2.1 (fun z258 hz258 => ?_)
                    have tz258 := tf_98_16 J0
                    refine h_put (pc' := 20) rfl rfl rfl rfl rfl rfl hz258 rfl (h_fgt (E := fun s => s 98 15 = t0 98 15 ∧ s 98 16 = t0 98 16 ∧ s 98 17 = t0 98 17 ∧ s 98 18 = t0 98 18 ∧ s 98 13 = 3 ∧ s 98 14 = (t0 98 16) ∧ s 98 5 = t0 98 5 ∧ s 98 6 = t0 98 6 ∧ s 98 7 = t0 98 7 ∧ s 98 8 = t0 98 8 ∧ s 98 9 = t0 98 9 ∧ s 101 18 = t0 101 18 ∧ s 101 25 = t0 101 25 ∧ s 101 43 = t0 101 43 ∧ s = h_up s257 98 14 (t0 98 16)) _ (if_98_14 Is257 (h_rgv hz258)) (Fs257.up rfl) ⟨es257.1, es257.2.1, es257.2.2.1, es257.2.2.2.1, es257.2.2.2.2.1, rfl, es257.2.2.2.2.2.2.1, es257.2.2.2.2.2.2.2.1, es257.2.2.2.2.2.2.2.2.1, es257.2.2.2.2.2.2.2.2.2.1, es257.2.2.2.2.2.2.2.2.2.2.1, es257.2.2.2.2.2.2.2.2.2.2.2.1, es257.2.2.2.2.2.2.2.2.2.2.2.2.1, es257.2.2.2.2.2.2.2.2.2.2.2.2.2.1, rfl⟩ (fun s259 Is259 Fs259 (es259 : s259 98 15 = t0 98 15 ∧ s259 98 16 = t0 98 16 ∧ s259 98 17 = t0 98 17 ∧ s259 98 18 = t0 98 18 ∧ s259 98 13 = 3 ∧ s259 98 14 = (t0 98 16) ∧ s259 98 5 = t0 98 5 ∧ s259 98 6 = t0 98 6 ∧ s259 98 7 = t0 98 7 ∧ s259 98 8 = t0 98 8 ∧ s259 98 9 = t0 98 9 ∧ s259 101 18 = t0 101 18 ∧ s259 101 25 = t0 101 25 ∧ s259 101 43 = t0 101 43 ∧ s259 = h_up s257 98 14 (t0 98 16)) => ?_))
                    refine h_vret rfl rfl (h_Kn ?_)
                    refine h_goto (pc' := 0) rfl rfl ?_
                    refine d_toL (g_inj ns) hlw225 hRw225 (fun lvw260 memw260 hlw260 hRw260 => ?_)
                    show h_T g_P (g_Y ns) 62 30 [(1, .int z224), (0, .ref 63)] [] s223 _
                    exact h_wk [(0, .ref 63), (1, .int z224)] ⟨rfl, rfl, trivial⟩ (ih _ _ Is223 Is259 Fs223 Fs259 z224 _ hz224  (by omega) (by omega) (by omega) (by omega) (by omega) (by omega) (by omega) (by omega) (by omega) (fun h => absurd h (by omega)) (Or.inl ⟨by omega, by omega, by omega, by omega⟩) (by omega) _ _ (h_al_ok ⟨rfl, trivial⟩ hlw260) hRw260)
              · clear hz230
                refine h_aload_n (pc' := 28) rfl rfl rfl ?_
                refine h_iconst (pc' := 29) (x := (Int32.ofInt 5)) rfl rfl rfl ?_
                refine h_call (sp := false) (pc' := 32) (M := [(0, .ref 98), (1, .int (Int32.ofInt 5))]) rfl rfl rfl rfl rfl rfl rfl rfl ?_
                refine h_aload_n (pc' := 1) rfl rfl rfl ?_
                refine h_getI (pc' := 4) (v := t0 98 13) rfl rfl rfl rfl rfl rfl (fun z261 hz261 => ?_)
                refine h_zne (tg := 20) (pc' := 7) rfl rfl rfl hz261 (fun c262 => absurd c262 (by omega)) (fun c262 => ?_)
                clear hz261
                refine h_aload_n (pc' := 8) rfl rfl rfl ?_
                refine h_iload_n (pc' := 9) rfl rfl rfl ?_
                refine h_put (pc' := 12) rfl rfl rfl rfl rfl rfl ci_5 rfl (h_fgt (E := fun s => s 98 15 = t0 98 15 ∧ s 98 16 = t0 98 16 ∧ s 98 17 = t0 98 17 ∧ s 98 18 = t0 98 18 ∧ s 98 13 = 5 ∧ s 98 14 = t0 98 14 ∧ s 98 5 = t0 98 5 ∧ s 98 6 = t0 98 6 ∧ s 98 7 = t0 98 7 ∧ s 98 8 = t0 98 8 ∧ s 98 9 = t0 98 9 ∧ s 101 18 = t0 101 18 ∧ s 101 25 = t0 101 25 ∧ s 101 43 = t0 101 43 ∧ s = h_up t0 98 13 5) _ (if_98_13 J0 (by omega)) (H0_.up rfl) ⟨rfl, rfl, rfl, rfl, rfl, rfl, rfl, rfl, rfl, rfl, rfl, rfl, rfl, rfl, rfl⟩ (fun s263 Is263 Fs263 (es263 : s263 98 15 = t0 98 15 ∧ s263 98 16 = t0 98 16 ∧ s263 98 17 = t0 98 17 ∧ s263 98 18 = t0 98 18 ∧ s263 98 13 = 5 ∧ s263 98 14 = t0 98 14 ∧ s263 98 5 = t0 98 5 ∧ s263 98 6 = t0 98 6 ∧ s263 98 7 = t0 98 7 ∧ s263 98 8 = t0 98 8 ∧ s263 98 9 = t0 98 9 ∧ s263 101 18 = t0 101 18 ∧ s263 101 25 = t0 101 25 ∧ s263 101 43 = t0 101 43 ∧ s263 = h_up t0 98 13 5) => ?_))
                refine h_aload_n (pc' := 13) rfl rfl rfl ?_
                refine h_aload_n (pc' := 14) rfl rfl rfl ?_
                refine h_getI (pc' := 17) (v := t0 98 16) rfl rfl rfl rfl rfl es263.2.1 (fun z264 hz264 => ?_)
                have tz264 := tf_98_16 J0
                refine h_put (pc' := 20) rfl rfl rfl rfl rfl rfl hz264 rfl (h_fgt (E := fun s => s 98 15 = t0 98 15 ∧ s 98 16 = t0 98 16 ∧ s 98 17 = t0 98 17 ∧ s 98 18 = t0 98 18 ∧ s 98 13 = 5 ∧ s 98 14 = (t0 98 16) ∧ s 98 5 = t0 98 5 ∧ s 98 6 = t0 98 6 ∧ s 98 7 = t0 98 7 ∧ s 98 8 = t0 98 8 ∧ s 98 9 = t0 98 9 ∧ s 101 18 = t0 101 18 ∧ s 101 25 = t0 101 25 ∧ s 101 43 = t0 101 43 ∧ s = h_up s263 98 14 (t0 98 16)) _ (if_98_14 Is263 (h_rgv hz264)) (Fs263.up rfl) ⟨es263.1, es263.2.1, es263.2.2.1, es263.2.2.2.1, es263.2.2.2.2.1, rfl, es263.2.2.2.2.2.2.1, es263.2.2.2.2.2.2.2.1, es263.2.2.2.2.2.2.2.2.1, es263.2.2.2.2.2.2.2.2.2.1, es263.2.2.2.2.2.2.2.2.2.2.1, es263.2.2.2.2.2.2.2.2.2.2.2.1, es263.2.2.2.2.2.2.2.2.2.2.2.2.1, es263.2.2.2.2.2.2.2.2.2.2.2.2.2.1, rfl⟩ (fun s265 Is265 Fs265 (es265 : s265 98 15 = t0 98 15 ∧ s265 98 16 = t0 98 16 ∧ s265 98 17 = t0 98 17 ∧ s265 98 18 = t0 98 18 ∧ s265 98 13 = 5 ∧ s265 98 14 = (t0 98 16) ∧ s265 98 5 = t0 98 5 ∧ s265 98 6 = t0 98 6 ∧ s265 98 7 = t0 98 7 ∧ s265 98 8 = t0 98 8 ∧ s265 98 9 = t0 98 9 ∧ s265 101 18 = t0 101 18 ∧ s265 101 25 = t0 101 25 ∧ s265 101 43 = t0 101 43 ∧ s265 = h_up s263 98 14 (t0 98 16)) => ?_))
                refine h_vret rfl rfl (h_Kn ?_)
                refine h_goto (pc' := 0) rfl rfl ?_
                refine d_toL (g_inj ns) hlw225 hRw225 (fun lvw266 memw266 hlw266 hRw266 => ?_)
                show h_T g_P (g_Y ns) 62 30 [(1, .int z224), (0, .ref 63)] [] s223 _
                exact h_wk [(0, .ref 63), (1, .int z224)] ⟨rfl, rfl, trivial⟩ (ih _ _ Is223 Is265 Fs223 Fs265 z224 _ hz224  (by omega) (by omega) (by omega) (by omega) (by omega) (by omega) (by omega) (by omega) (by omega) (fun h => absurd h (by omega)) (Or.inl ⟨by omega, by omega, by omega, by omega⟩) (by omega) _ _ (h_al_ok ⟨rfl, trivial⟩ hlw266) hRw266)
        · clear hz116
          refine h_aload_n (pc' := 21) rfl rfl rfl ?_
          refine h_iconst (pc' := 22) (x := (Int32.ofInt 5)) rfl rfl rfl ?_
          refine h_aload_n (pc' := 23) rfl rfl rfl ?_
          refine h_getR (pc' := 26) rfl rfl rfl rfl rfl ?_
          refine h_getI (pc' := 29) (v := s0 64 4) rfl rfl rfl rfl rfl rfl (fun z267 hz267 => ?_)
          have tz267 := tf_64_4 I0
          refine h_call (sp := false) (pc' := 32) (M := [(0, .ref 63), (1, .int (Int32.ofInt 5)), (2, .int z267)]) rfl rfl rfl rfl rfl rfl rfl rfl ?_
          refine h_aload_n (pc' := 1) rfl rfl rfl ?_
          refine h_getI (pc' := 4) (v := s0 63 2) rfl rfl rfl rfl rfl rfl (fun z268 hz268 => ?_)
          refine h_zne (tg := 17) (pc' := 7) rfl rfl rfl hz268 (fun c269 => absurd c269 (by omega)) (fun c269 => ?_)
          clear hz268
          refine h_aload_n (pc' := 8) rfl rfl rfl ?_
          refine h_iload_n (pc' := 9) rfl rfl rfl ?_
          refine h_put (pc' := 12) rfl rfl rfl rfl rfl rfl ci_5 rfl (h_fgt (E := fun s => s 64 2 = s0 64 2 ∧ s 64 4 = s0 64 4 ∧ s 64 3 = s0 64 3 ∧ s 64 5 = s0 64 5 ∧ s 63 2 = 5 ∧ s 63 3 = s0 63 3 ∧ s 64 1 = s0 64 1 ∧ s 66 8 = s0 66 8 ∧ s 66 9 = s0 66 9 ∧ s 66 10 = s0 66 10 ∧ s 69 2 = s0 69 2 ∧ s 72 2 = s0 72 2 ∧ s 63 5 = s0 63 5 ∧ s = h_up s0 63 2 5) _ (if_63_2 I0 (by omega)) (F0_.up rfl) ⟨rfl, rfl, rfl, rfl, rfl, rfl, rfl, rfl, rfl, rfl, rfl, rfl, rfl, rfl⟩ (fun s270 Is270 Fs270 (es270 : s270 64 2 = s0 64 2 ∧ s270 64 4 = s0 64 4 ∧ s270 64 3 = s0 64 3 ∧ s270 64 5 = s0 64 5 ∧ s270 63 2 = 5 ∧ s270 63 3 = s0 63 3 ∧ s270 64 1 = s0 64 1 ∧ s270 66 8 = s0 66 8 ∧ s270 66 9 = s0 66 9 ∧ s270 66 10 = s0 66 10 ∧ s270 69 2 = s0 69 2 ∧ s270 72 2 = s0 72 2 ∧ s270 63 5 = s0 63 5 ∧ s270 = h_up s0 63 2 5) => ?_))
          refine h_aload_n (pc' := 13) rfl rfl rfl ?_
          refine h_iload_n (pc' := 14) rfl rfl rfl ?_
          refine h_put (pc' := 17) rfl rfl rfl rfl rfl rfl hz267 rfl (h_fgt (E := fun s => s 64 2 = s0 64 2 ∧ s 64 4 = s0 64 4 ∧ s 64 3 = s0 64 3 ∧ s 64 5 = s0 64 5 ∧ s 63 2 = 5 ∧ s 63 3 = (s0 64 4) ∧ s 64 1 = s0 64 1 ∧ s 66 8 = s0 66 8 ∧ s 66 9 = s0 66 9 ∧ s 66 10 = s0 66 10 ∧ s 69 2 = s0 69 2 ∧ s 72 2 = s0 72 2 ∧ s 63 5 = s0 63 5 ∧ s = h_up s270 63 3 (s0 64 4)) _ (if_63_3 Is270 (h_rgv hz267)) (Fs270.up rfl) ⟨es270.1, es270.2.1, es270.2.2.1, es270.2.2.2.1, es270.2.2.2.2.1, rfl, es270.2.2.2.2.2.2.1, es270.2.2.2.2.2.2.2.1, es270.2.2.2.2.2.2.2.2.1, es270.2.2.2.2.2.2.2.2.2.1, es270.2.2.2.2.2.2.2.2.2.2.1, es270.2.2.2.2.2.2.2.2.2.2.2.1, es270.2.2.2.2.2.2.2.2.2.2.2.2.1, rfl⟩ (fun s271 Is271 Fs271 (es271 : s271 64 2 = s0 64 2 ∧ s271 64 4 = s0 64 4 ∧ s271 64 3 = s0 64 3 ∧ s271 64 5 = s0 64 5 ∧ s271 63 2 = 5 ∧ s271 63 3 = (s0 64 4) ∧ s271 64 1 = s0 64 1 ∧ s271 66 8 = s0 66 8 ∧ s271 66 9 = s0 66 9 ∧ s271 66 10 = s0 66 10 ∧ s271 69 2 = s0 69 2 ∧ s271 72 2 = s0 72 2 ∧ s271 63 5 = s0 63 5 ∧ s271 = h_up s270 63 3 (s0 64 4)) => ?_))
          refine h_vret rfl rfl (h_Kn ?_)
          refine h_goto (pc' := 79) rfl rfl ?_
          refine h_vret rfl rfl (d_retn hlv114 ?_)
          clear hz115
          refine h_iinc (pc' := 50) (M := fun z272 => [(1, .int z272), (0, .ref 63)]) rfl rfl rfl rfl hx1 ci_1 rfl (by omega) (by omega) (fun _ => rfl) (fun z272 hz272 => ?_)
          refine h_goto (pc' := 30) rfl rfl ?_
          refine d_toM (g_inj ns) hl2 hR2 (fun lvw273 memw273 hlw273 hRw273 => ?_)
          show h_T g_P (g_Y ns) 152 0 [(0, .ref 98)] [] t0 _
          refine h_aload_n (pc' := 1) rfl rfl rfl ?_
          refine h_getI (pc' := 4) (v := t0 98 13) rfl rfl rfl rfl rfl rfl (fun z274 hz274 => ?_)
          have tz274 := tf_98_13 J0
          refine h_zne (tg := 167) (pc' := 7) rfl rfl rfl hz274 (fun c275 => absurd c275 (by omega)) (fun c275 => ?_)
          clear hz274
          refine h_aload_n (pc' := 8) rfl rfl rfl ?_
          refine h_getI (pc' := 11) (v := t0 98 17) rfl rfl rfl rfl rfl rfl (fun z276 hz276 => ?_)
          have tz276 := tf_98_17 J0
          refine h_iconst (pc' := 12) (x := (Int32.ofInt 2)) rfl rfl rfl ?_
          refine h_cne (tg := 167) (pc' := 15) rfl rfl rfl hz276 ci_2 (fun c277 => absurd c277 (by omega)) (fun c277 => ?_)
          clear hz276
          refine h_aload_n (pc' := 16) rfl rfl rfl ?_
          refine h_getR (pc' := 19) rfl rfl rfl rfl rfl ?_
          refine h_bipush (pc' := 21) (x := (Int32.ofInt 43)) rfl rfl cb_43 ?_
          refine h_iald (pc' := 22) (v := t0 101 43) rfl rfl rfl ci_43 (by omega) (by omega) rfl (fun z278 hz278 => ?_)
          have tz278 := ty_101_10 J0 43 (by omega)
          refine h_bipush (pc' := 24) (x := (Int32.ofInt 8)) rfl rfl cb_8 ?_
          refine h_cne (tg := 35) (pc' := 27) rfl rfl rfl hz278 ci_8 (fun c279 => ?_) (fun c279 => ?_)
          · clear hz278
            refine h_aload_n (pc' := 36) rfl rfl rfl ?_
            refine h_getI (pc' := 39) (v := t0 98 18) rfl rfl rfl rfl rfl rfl (fun z280 hz280 => ?_)
            have tz280 := tf_98_18 J0
            refine h_bipush (pc' := 41) (x := (Int32.ofInt 10)) rfl rfl cb_10 ?_
            refine h_idiv (pc' := 42) rfl rfl hz280 ci_10 (by omega) (by omega) (fun z281 hz281 => ?_)
            clear hz280
            refine h_bipush (pc' := 44) (x := (Int32.ofInt 6)) rfl rfl cb_6 ?_
            refine h_cge (tg := 58) (pc' := 47) rfl rfl rfl hz281 ci_6 (fun c282 => ?_) (fun c282 => ?_)
            · clear hz281
              refine h_aload_n (pc' := 59) rfl rfl rfl ?_
              refine h_iconst (pc' := 60) (x := (Int32.ofInt 3)) rfl rfl rfl ?_
              refine h_call (sp := false) (pc' := 63) (M := [(0, .ref 98), (1, .int (Int32.ofInt 3))]) rfl rfl rfl rfl rfl rfl rfl rfl ?_
              refine h_aload_n (pc' := 1) rfl rfl rfl ?_
              refine h_getI (pc' := 4) (v := t0 98 13) rfl rfl rfl rfl rfl rfl (fun z283 hz283 => ?_)
              refine h_zne (tg := 20) (pc' := 7) rfl rfl rfl hz283 (fun c284 => absurd c284 (by omega)) (fun c284 => ?_)
              clear hz283
              refine h_aload_n (pc' := 8) rfl rfl rfl ?_
              refine h_iload_n (pc' := 9) rfl rfl rfl ?_
              refine h_put (pc' := 12) rfl rfl rfl rfl rfl rfl ci_3 rfl (h_fgt (E := fun s => s 98 15 = t0 98 15 ∧ s 98 16 = t0 98 16 ∧ s 98 17 = t0 98 17 ∧ s 98 18 = t0 98 18 ∧ s 98 13 = 3 ∧ s 98 14 = t0 98 14 ∧ s 98 5 = t0 98 5 ∧ s 98 6 = t0 98 6 ∧ s 98 7 = t0 98 7 ∧ s 98 8 = t0 98 8 ∧ s 98 9 = t0 98 9 ∧ s 101 18 = t0 101 18 ∧ s 101 25 = t0 101 25 ∧ s 101 43 = t0 101 43 ∧ s = h_up t0 98 13 3) _ (if_98_13 J0 (by omega)) (H0_.up rfl) ⟨rfl, rfl, rfl, rfl, rfl, rfl, rfl, rfl, rfl, rfl, rfl, rfl, rfl, rfl, rfl⟩ (fun s285 Is285 Fs285 (es285 : s285 98 15 = t0 98 15 ∧ s285 98 16 = t0 98 16 ∧ s285 98 17 = t0 98 17 ∧ s285 98 18 = t0 98 18 ∧ s285 98 13 = 3 ∧ s285 98 14 = t0 98 14 ∧ s285 98 5 = t0 98 5 ∧ s285 98 6 = t0 98 6 ∧ s285 98 7 = t0 98 7 ∧ s285 98 8 = t0 98 8 ∧ s285 98 9 = t0 98 9 ∧ s285 101 18 = t0 101 18 ∧ s285 101 25 = t0 101 25 ∧ s285 101 43 = t0 101 43 ∧ s285 = h_up t0 98 13 3) => ?_))
              refine h_aload_n (pc' := 13) rfl rfl rfl ?_
              refine h_aload_n (pc' := 14) rfl rfl rfl ?_
              refine h_getI (pc' := 17) (v := t0 98 16) rfl rfl rfl rfl rfl es285.2.1 (fun z286 hz286 => ?_)
              have tz286 := tf_98_16 J0
              refine h_put (pc' := 20) rfl rfl rfl rfl rfl rfl hz286 rfl (h_fgt (E := fun s => s 98 15 = t0 98 15 ∧ s 98 16 = t0 98 16 ∧ s 98 17 = t0 98 17 ∧ s 98 18 = t0 98 18 ∧ s 98 13 = 3 ∧ s 98 14 = (t0 98 16) ∧ s 98 5 = t0 98 5 ∧ s 98 6 = t0 98 6 ∧ s 98 7 = t0 98 7 ∧ s 98 8 = t0 98 8 ∧ s 98 9 = t0 98 9 ∧ s 101 18 = t0 101 18 ∧ s 101 25 = t0 101 25 ∧ s 101 43 = t0 101 43 ∧ s = h_up s285 98 14 (t0 98 16)) _ (if_98_14 Is285 (h_rgv hz286)) (Fs285.up rfl) ⟨es285.1, es285.2.1, es285.2.2.1, es285.2.2.2.1, es285.2.2.2.2.1, rfl, es285.2.2.2.2.2.2.1, es285.2.2.2.2.2.2.2.1, es285.2.2.2.2.2.2.2.2.1, es285.2.2.2.2.2.2.2.2.2.1, es285.2.2.2.2.2.2.2.2.2.2.1, es285.2.2.2.2.2.2.2.2.2.2.2.1, es285.2.2.2.2.2.2.2.2.2.2.2.2.1, es285.2.2.2.2.2.2.2.2.2.2.2.2.2.1, rfl⟩ (fun s287 Is287 Fs287 (es287 : s287 98 15 = t0 98 15 ∧ s287 98 16 = t0 98 16 ∧ s287 98 17 = t0 98 17 ∧ s287 98 18 = t0 98 18 ∧ s287 98 13 = 3 ∧ s287 98 14 = (t0 98 16) ∧ s287 98 5 = t0 98 5 ∧ s287 98 6 = t0 98 6 ∧ s287 98 7 = t0 98 7 ∧ s287 98 8 = t0 98 8 ∧ s287 98 9 = t0 98 9 ∧ s287 101 18 = t0 101 18 ∧ s287 101 25 = t0 101 25 ∧ s287 101 43 = t0 101 43 ∧ s287 = h_up s285 98 14 (t0 98 16)) => ?_))
              refine h_vret rfl rfl (h_Kn ?_)
              refine h_goto (pc' := 0) rfl rfl ?_
              refine d_toL (g_inj ns) hlw273 hRw273 (fun lvw288 memw288 hlw288 hRw288 => ?_)
              show h_T g_P (g_Y ns) 62 30 [(1, .int z272), (0, .ref 63)] [] s271 _
              exact h_wk [(0, .ref 63), (1, .int z272)] ⟨rfl, rfl, trivial⟩ (ih _ _ Is271 Is287 Fs271 Fs287 z272 _ hz272  (by omega) (by omega) (by omega) (by omega) (by omega) (by omega) (by omega) (by omega) (by omega) (fun h => absurd h (by omega)) (Or.inl ⟨by omega, by omega, by omega, by omega⟩) (by omega) _ _ (h_al_ok ⟨rfl, trivial⟩ hlw288) hRw288)
            · clear hz281
              refine h_aload_n (pc' := 48) rfl rfl rfl ?_
              refine h_getI (pc' := 51) (v := t0 98 18) rfl rfl rfl rfl rfl rfl (fun z289 hz289 => ?_)
              refine h_bipush (pc' := 53) (x := (Int32.ofInt 10)) rfl rfl cb_10 ?_
              refine h_irem (pc' := 54) rfl rfl hz289 ci_10 (by omega) (by omega) (fun z290 hz290 => ?_)
              clear hz289
              refine h_iconst (pc' := 55) (x := (Int32.ofInt 3)) rfl rfl rfl ?_
              refine h_clt (tg := 66) (pc' := 58) rfl rfl rfl hz290 ci_3 (fun c291 => ?_) (fun c291 => ?_)
              · clear hz290
                have gH292 : 0 ≤ t0 98 18 ∧ t0 98 18 ≤ 99 := by have ga := tf_98_18 J0; omega
                have oH292 : t0 98 8 = t0 98 8 := rfl
                have vH292 : t0 98 18 = t0 98 18 := rfl
                have uH292 := tf_98_8 J0
                refine h_wk [(0, .ref 98)] ⟨rfl, trivial⟩ (lm_ho _ J0 (by omega) (fun H292 hH292 => (h_fgt (E := fun s => s 98 15 = t0 98 15 ∧ s 98 16 = t0 98 16 ∧ s 98 17 = t0 98 17 ∧ s 98 18 = t0 98 18 ∧ s 98 13 = t0 98 13 ∧ s 98 14 = t0 98 14 ∧ s 98 5 = t0 98 5 ∧ s 98 6 = t0 98 6 ∧ s 98 7 = t0 98 7 ∧ s 98 8 = H292 ∧ s 98 9 = t0 98 9 ∧ s 101 18 = t0 101 18 ∧ s 101 25 = t0 101 25 ∧ s 101 43 = t0 101 43 ∧ s = h_up t0 98 8 H292) _ (if_98_8 J0 (by omega)) (H0_.up rfl) ⟨rfl, rfl, rfl, rfl, rfl, rfl, rfl, rfl, rfl, rfl, rfl, rfl, rfl, rfl, rfl⟩ (fun s293 Is293 Fs293 (es293 : s293 98 15 = t0 98 15 ∧ s293 98 16 = t0 98 16 ∧ s293 98 17 = t0 98 17 ∧ s293 98 18 = t0 98 18 ∧ s293 98 13 = t0 98 13 ∧ s293 98 14 = t0 98 14 ∧ s293 98 5 = t0 98 5 ∧ s293 98 6 = t0 98 6 ∧ s293 98 7 = t0 98 7 ∧ s293 98 8 = H292 ∧ s293 98 9 = t0 98 9 ∧ s293 101 18 = t0 101 18 ∧ s293 101 25 = t0 101 25 ∧ s293 101 43 = t0 101 43 ∧ s293 = h_up t0 98 8 H292) => ?_))))
                have gH294 : 0 ≤ s293 98 18 ∧ s293 98 18 ≤ 99 := by have ga := es293.2.2.2.1; omega
                have oH294 : s293 98 9 = t0 98 9 := es293.2.2.2.2.2.2.2.2.2.2.1
                have vH294 : s293 98 18 = t0 98 18 := es293.2.2.2.1
                have uH294 := tf_98_9 Is293
                refine h_wk [(0, .ref 98)] ⟨rfl, trivial⟩ (lm_hg _ Is293 (by omega) (fun H294 hH294 => (h_fgt (E := fun s => s 98 15 = t0 98 15 ∧ s 98 16 = t0 98 16 ∧ s 98 17 = t0 98 17 ∧ s 98 18 = t0 98 18 ∧ s 98 13 = t0 98 13 ∧ s 98 14 = t0 98 14 ∧ s 98 5 = t0 98 5 ∧ s 98 6 = t0 98 6 ∧ s 98 7 = t0 98 7 ∧ s 98 8 = H292 ∧ s 98 9 = H294 ∧ s 101 18 = t0 101 18 ∧ s 101 25 = t0 101 25 ∧ s 101 43 = t0 101 43 ∧ s = h_up s293 98 9 H294) _ (if_98_9 Is293 (by omega)) (Fs293.up rfl) ⟨es293.1, es293.2.1, es293.2.2.1, es293.2.2.2.1, es293.2.2.2.2.1, es293.2.2.2.2.2.1, es293.2.2.2.2.2.2.1, es293.2.2.2.2.2.2.2.1, es293.2.2.2.2.2.2.2.2.1, es293.2.2.2.2.2.2.2.2.2.1, rfl, es293.2.2.2.2.2.2.2.2.2.2.2.1, es293.2.2.2.2.2.2.2.2.2.2.2.2.1, es293.2.2.2.2.2.2.2.2.2.2.2.2.2.1, rfl⟩ (fun s295 Is295 Fs295 (es295 : s295 98 15 = t0 98 15 ∧ s295 98 16 = t0 98 16 ∧ s295 98 17 = t0 98 17 ∧ s295 98 18 = t0 98 18 ∧ s295 98 13 = t0 98 13 ∧ s295 98 14 = t0 98 14 ∧ s295 98 5 = t0 98 5 ∧ s295 98 6 = t0 98 6 ∧ s295 98 7 = t0 98 7 ∧ s295 98 8 = H292 ∧ s295 98 9 = H294 ∧ s295 101 18 = t0 101 18 ∧ s295 101 25 = t0 101 25 ∧ s295 101 43 = t0 101 43 ∧ s295 = h_up s293 98 9 H294) => ?_))))
                refine h_aload_n (pc' := 131) rfl rfl rfl ?_
                refine h_getR (pc' := 134) rfl rfl rfl rfl rfl ?_
                refine h_bipush (pc' := 136) (x := (Int32.ofInt 35)) rfl rfl cb_35 ?_
                refine h_aload_n (pc' := 137) rfl rfl rfl ?_
                refine h_getR (pc' := 140) rfl rfl rfl rfl rfl ?_
                refine h_bipush (pc' := 142) (x := (Int32.ofInt 43)) rfl rfl cb_43 ?_
                refine h_iald (pc' := 143) (v := t0 101 43) rfl rfl rfl ci_43 (by omega) (by omega) es295.2.2.2.2.2.2.2.2.2.2.2.2.2.1 (fun z296 hz296 => ?_)
                refine h_iadd (pc' := 144) rfl rfl ci_35 hz296 rfl (by omega) (by omega) (fun z297 hz297 => ?_)
                clear hz296
                refine h_aload_n (pc' := 145) rfl rfl rfl ?_
                refine h_getI (pc' := 148) (v := t0 98 18) rfl rfl rfl rfl rfl es295.2.2.2.1 (fun z298 hz298 => ?_)
                refine h_iast (pc' := 149) rfl rfl rfl rfl hz297 (by omega) (by omega) hz298 (h_fgt (E := fun s => s 98 15 = t0 98 15 ∧ s 98 16 = t0 98 16 ∧ s 98 17 = t0 98 17 ∧ s 98 18 = t0 98 18 ∧ s 98 13 = t0 98 13 ∧ s 98 14 = t0 98 14 ∧ s 98 5 = t0 98 5 ∧ s 98 6 = t0 98 6 ∧ s 98 7 = t0 98 7 ∧ s 98 8 = H292 ∧ s 98 9 = H294 ∧ s 101 18 = t0 101 18 ∧ s 101 25 = t0 101 25 ∧ s 101 43 = t0 101 43 ∧ s = h_up s295 101 (35 + (t0 101 43)) (t0 98 18)) _ (ip_101_9 Is295 (by omega) (by omega)) (Fs295.up rfl) ⟨es295.1, es295.2.1, es295.2.2.1, es295.2.2.2.1, es295.2.2.2.2.1, es295.2.2.2.2.2.1, es295.2.2.2.2.2.2.1, es295.2.2.2.2.2.2.2.1, es295.2.2.2.2.2.2.2.2.1, es295.2.2.2.2.2.2.2.2.2.1, es295.2.2.2.2.2.2.2.2.2.2.1, h_up_n2 (by omega) es295.2.2.2.2.2.2.2.2.2.2.2.1, h_up_n2 (by omega) es295.2.2.2.2.2.2.2.2.2.2.2.2.1, h_up_n2 (by omega) es295.2.2.2.2.2.2.2.2.2.2.2.2.2.1, rfl⟩ (fun s299 Is299 Fs299 (es299 : s299 98 15 = t0 98 15 ∧ s299 98 16 = t0 98 16 ∧ s299 98 17 = t0 98 17 ∧ s299 98 18 = t0 98 18 ∧ s299 98 13 = t0 98 13 ∧ s299 98 14 = t0 98 14 ∧ s299 98 5 = t0 98 5 ∧ s299 98 6 = t0 98 6 ∧ s299 98 7 = t0 98 7 ∧ s299 98 8 = H292 ∧ s299 98 9 = H294 ∧ s299 101 18 = t0 101 18 ∧ s299 101 25 = t0 101 25 ∧ s299 101 43 = t0 101 43 ∧ s299 = h_up s295 101 (35 + (t0 101 43)) (t0 98 18)) => ?_))
                clear hz297 hz298
                refine h_aload_n (pc' := 150) rfl rfl rfl ?_
                refine h_getR (pc' := 153) rfl rfl rfl rfl rfl ?_
                refine h_bipush (pc' := 155) (x := (Int32.ofInt 43)) rfl rfl cb_43 ?_
                refine h_dup2 (pc' := 156) rfl rfl rfl ?_
                refine h_iald (pc' := 157) (v := t0 101 43) rfl rfl rfl ci_43 (by omega) (by omega) es299.2.2.2.2.2.2.2.2.2.2.2.2.2.1 (fun z300 hz300 => ?_)
                refine h_iconst (pc' := 158) (x := (Int32.ofInt 1)) rfl rfl rfl ?_
                refine h_iadd (pc' := 159) rfl rfl hz300 ci_1 rfl (by omega) (by omega) (fun z301 hz301 => ?_)
                clear hz300
                refine h_iast (pc' := 160) rfl rfl rfl rfl ci_43 (by omega) (by omega) hz301 (h_fgt (E := fun s => s 98 15 = t0 98 15 ∧ s 98 16 = t0 98 16 ∧ s 98 17 = t0 98 17 ∧ s 98 18 = t0 98 18 ∧ s 98 13 = t0 98 13 ∧ s 98 14 = t0 98 14 ∧ s 98 5 = t0 98 5 ∧ s 98 6 = t0 98 6 ∧ s 98 7 = t0 98 7 ∧ s 98 8 = H292 ∧ s 98 9 = H294 ∧ s 101 18 = t0 101 18 ∧ s 101 25 = t0 101 25 ∧ s 101 43 = ((t0 101 43) + 1) ∧ s = h_up s299 101 43 ((t0 101 43) + 1)) _ (ip_101_10 Is299 (by omega) (by omega)) (Fs299.up rfl) ⟨es299.1, es299.2.1, es299.2.2.1, es299.2.2.2.1, es299.2.2.2.2.1, es299.2.2.2.2.2.1, es299.2.2.2.2.2.2.1, es299.2.2.2.2.2.2.2.1, es299.2.2.2.2.2.2.2.2.1, es299.2.2.2.2.2.2.2.2.2.1, es299.2.2.2.2.2.2.2.2.2.2.1, es299.2.2.2.2.2.2.2.2.2.2.2.1, es299.2.2.2.2.2.2.2.2.2.2.2.2.1, rfl, rfl⟩ (fun s302 Is302 Fs302 (es302 : s302 98 15 = t0 98 15 ∧ s302 98 16 = t0 98 16 ∧ s302 98 17 = t0 98 17 ∧ s302 98 18 = t0 98 18 ∧ s302 98 13 = t0 98 13 ∧ s302 98 14 = t0 98 14 ∧ s302 98 5 = t0 98 5 ∧ s302 98 6 = t0 98 6 ∧ s302 98 7 = t0 98 7 ∧ s302 98 8 = H292 ∧ s302 98 9 = H294 ∧ s302 101 18 = t0 101 18 ∧ s302 101 25 = t0 101 25 ∧ s302 101 43 = ((t0 101 43) + 1) ∧ s302 = h_up s299 101 43 ((t0 101 43) + 1)) => ?_))
                refine h_aload_n (pc' := 161) rfl rfl rfl ?_
                exfalso
                omega
              · clear hz290
                refine h_aload_n (pc' := 59) rfl rfl rfl ?_
                refine h_iconst (pc' := 60) (x := (Int32.ofInt 3)) rfl rfl rfl ?_
                refine h_call (sp := false) (pc' := 63) (M := [(0, .ref 98), (1, .int (Int32.ofInt 3))]) rfl rfl rfl rfl rfl rfl rfl rfl ?_
                refine h_aload_n (pc' := 1) rfl rfl rfl ?_
                refine h_getI (pc' := 4) (v := t0 98 13) rfl rfl rfl rfl rfl rfl (fun z303 hz303 => ?_)
                refine h_zne (tg := 20) (pc' := 7) rfl rfl rfl hz303 (fun c304 => absurd c304 (by omega)) (fun c304 => ?_)
                clear hz303
                refine h_aload_n (pc' := 8) rfl rfl rfl ?_
                refine h_iload_n (pc' := 9) rfl rfl rfl ?_
                refine h_put (pc' := 12) rfl rfl rfl rfl rfl rfl ci_3 rfl (h_fgt (E := fun s => s 98 15 = t0 98 15 ∧ s 98 16 = t0 98 16 ∧ s 98 17 = t0 98 17 ∧ s 98 18 = t0 98 18 ∧ s 98 13 = 3 ∧ s 98 14 = t0 98 14 ∧ s 98 5 = t0 98 5 ∧ s 98 6 = t0 98 6 ∧ s 98 7 = t0 98 7 ∧ s 98 8 = t0 98 8 ∧ s 98 9 = t0 98 9 ∧ s 101 18 = t0 101 18 ∧ s 101 25 = t0 101 25 ∧ s 101 43 = t0 101 43 ∧ s = h_up t0 98 13 3) _ (if_98_13 J0 (by omega)) (H0_.up rfl) ⟨rfl, rfl, rfl, rfl, rfl, rfl, rfl, rfl, rfl, rfl, rfl, rfl, rfl, rfl, rfl⟩ (fun s305 Is305 Fs305 (es305 : s305 98 15 = t0 98 15 ∧ s305 98 16 = t0 98 16 ∧ s305 98 17 = t0 98 17 ∧ s305 98 18 = t0 98 18 ∧ s305 98 13 = 3 ∧ s305 98 14 = t0 98 14 ∧ s305 98 5 = t0 98 5 ∧ s305 98 6 = t0 98 6 ∧ s305 98 7 = t0 98 7 ∧ s305 98 8 = t0 98 8 ∧ s305 98 9 = t0 98 9 ∧ s305 101 18 = t0 101 18 ∧ s305 101 25 = t0 101 25 ∧ s305 101 43 = t0 101 43 ∧ s305 = h_up t0 98 13 3) => ?_))
                refine h_aload_n (pc' := 13) rfl rfl rfl ?_
                refine h_aload_n (pc' := 14) rfl rfl rfl ?_
                refine h_getI (pc' := 17) (v := t0 98 16) rfl rfl rfl rfl rfl es305.2.1 (fun z306 hz306 => ?_)
                have tz306 := tf_98_16 J0
                refine h_put (pc' := 20) rfl rfl rfl rfl rfl rfl hz306 rfl (h_fgt (E := fun s => s 98 15 = t0 98 15 ∧ s 98 16 = t0 98 16 ∧ s 98 17 = t0 98 17 ∧ s 98 18 = t0 98 18 ∧ s 98 13 = 3 ∧ s 98 14 = (t0 98 16) ∧ s 98 5 = t0 98 5 ∧ s 98 6 = t0 98 6 ∧ s 98 7 = t0 98 7 ∧ s 98 8 = t0 98 8 ∧ s 98 9 = t0 98 9 ∧ s 101 18 = t0 101 18 ∧ s 101 25 = t0 101 25 ∧ s 101 43 = t0 101 43 ∧ s = h_up s305 98 14 (t0 98 16)) _ (if_98_14 Is305 (h_rgv hz306)) (Fs305.up rfl) ⟨es305.1, es305.2.1, es305.2.2.1, es305.2.2.2.1, es305.2.2.2.2.1, rfl, es305.2.2.2.2.2.2.1, es305.2.2.2.2.2.2.2.1, es305.2.2.2.2.2.2.2.2.1, es305.2.2.2.2.2.2.2.2.2.1, es305.2.2.2.2.2.2.2.2.2.2.1, es305.2.2.2.2.2.2.2.2.2.2.2.1, es305.2.2.2.2.2.2.2.2.2.2.2.2.1, es305.2.2.2.2.2.2.2.2.2.2.2.2.2.1, rfl⟩ (fun s307 Is307 Fs307 (es307 : s307 98 15 = t0 98 15 ∧ s307 98 16 = t0 98 16 ∧ s307 98 17 = t0 98 17 ∧ s307 98 18 = t0 98 18 ∧ s307 98 13 = 3 ∧ s307 98 14 = (t0 98 16) ∧ s307 98 5 = t0 98 5 ∧ s307 98 6 = t0 98 6 ∧ s307 98 7 = t0 98 7 ∧ s307 98 8 = t0 98 8 ∧ s307 98 9 = t0 98 9 ∧ s307 101 18 = t0 101 18 ∧ s307 101 25 = t0 101 25 ∧ s307 101 43 = t0 101 43 ∧ s307 = h_up s305 98 14 (t0 98 16)) => ?_))
                refine h_vret rfl rfl (h_Kn ?_)
                refine h_goto (pc' := 0) rfl rfl ?_
                refine d_toL (g_inj ns) hlw273 hRw273 (fun lvw308 memw308 hlw308 hRw308 => ?_)
                show h_T g_P (g_Y ns) 62 30 [(1, .int z272), (0, .ref 63)] [] s271 _
                exact h_wk [(0, .ref 63), (1, .int z272)] ⟨rfl, rfl, trivial⟩ (ih _ _ Is271 Is307 Fs271 Fs307 z272 _ hz272  (by omega) (by omega) (by omega) (by omega) (by omega) (by omega) (by omega) (by omega) (by omega) (fun h => absurd h (by omega)) (Or.inl ⟨by omega, by omega, by omega, by omega⟩) (by omega) _ _ (h_al_ok ⟨rfl, trivial⟩ hlw308) hRw308)
          · clear hz278
            refine h_aload_n (pc' := 28) rfl rfl rfl ?_
            refine h_iconst (pc' := 29) (x := (Int32.ofInt 5)) rfl rfl rfl ?_
            refine h_call (sp := false) (pc' := 32) (M := [(0, .ref 98), (1, .int (Int32.ofInt 5))]) rfl rfl rfl rfl rfl rfl rfl rfl ?_
            refine h_aload_n (pc' := 1) rfl rfl rfl ?_
            refine h_getI (pc' := 4) (v := t0 98 13) rfl rfl rfl rfl rfl rfl (fun z309 hz309 => ?_)
            refine h_zne (tg := 20) (pc' := 7) rfl rfl rfl hz309 (fun c310 => absurd c310 (by omega)) (fun c310 => ?_)
            clear hz309
            refine h_aload_n (pc' := 8) rfl rfl rfl ?_
            refine h_iload_n (pc' := 9) rfl rfl rfl ?_
            refine h_put (pc' := 12) rfl rfl rfl rfl rfl rfl ci_5 rfl (h_fgt (E := fun s => s 98 15 = t0 98 15 ∧ s 98 16 = t0 98 16 ∧ s 98 17 = t0 98 17 ∧ s 98 18 = t0 98 18 ∧ s 98 13 = 5 ∧ s 98 14 = t0 98 14 ∧ s 98 5 = t0 98 5 ∧ s 98 6 = t0 98 6 ∧ s 98 7 = t0 98 7 ∧ s 98 8 = t0 98 8 ∧ s 98 9 = t0 98 9 ∧ s 101 18 = t0 101 18 ∧ s 101 25 = t0 101 25 ∧ s 101 43 = t0 101 43 ∧ s = h_up t0 98 13 5) _ (if_98_13 J0 (by omega)) (H0_.up rfl) ⟨rfl, rfl, rfl, rfl, rfl, rfl, rfl, rfl, rfl, rfl, rfl, rfl, rfl, rfl, rfl⟩ (fun s311 Is311 Fs311 (es311 : s311 98 15 = t0 98 15 ∧ s311 98 16 = t0 98 16 ∧ s311 98 17 = t0 98 17 ∧ s311 98 18 = t0 98 18 ∧ s311 98 13 = 5 ∧ s311 98 14 = t0 98 14 ∧ s311 98 5 = t0 98 5 ∧ s311 98 6 = t0 98 6 ∧ s311 98 7 = t0 98 7 ∧ s311 98 8 = t0 98 8 ∧ s311 98 9 = t0 98 9 ∧ s311 101 18 = t0 101 18 ∧ s311 101 25 = t0 101 25 ∧ s311 101 43 = t0 101 43 ∧ s311 = h_up t0 98 13 5) => ?_))
            refine h_aload_n (pc' := 13) rfl rfl rfl ?_
            refine h_aload_n (pc' := 14) rfl rfl rfl ?_
            refine h_getI (pc' := 17) (v := t0 98 16) rfl rfl rfl rfl rfl es311.2.1 (fun z312 hz312 => ?_)
            have tz312 := tf_98_16 J0
            refine h_put (pc' := 20) rfl rfl rfl rfl rfl rfl hz312 rfl (h_fgt (E := fun s => s 98 15 = t0 98 15 ∧ s 98 16 = t0 98 16 ∧ s 98 17 = t0 98 17 ∧ s 98 18 = t0 98 18 ∧ s 98 13 = 5 ∧ s 98 14 = (t0 98 16) ∧ s 98 5 = t0 98 5 ∧ s 98 6 = t0 98 6 ∧ s 98 7 = t0 98 7 ∧ s 98 8 = t0 98 8 ∧ s 98 9 = t0 98 9 ∧ s 101 18 = t0 101 18 ∧ s 101 25 = t0 101 25 ∧ s 101 43 = t0 101 43 ∧ s = h_up s311 98 14 (t0 98 16)) _ (if_98_14 Is311 (h_rgv hz312)) (Fs311.up rfl) ⟨es311.1, es311.2.1, es311.2.2.1, es311.2.2.2.1, es311.2.2.2.2.1, rfl, es311.2.2.2.2.2.2.1, es311.2.2.2.2.2.2.2.1, es311.2.2.2.2.2.2.2.2.1, es311.2.2.2.2.2.2.2.2.2.1, es311.2.2.2.2.2.2.2.2.2.2.1, es311.2.2.2.2.2.2.2.2.2.2.2.1, es311.2.2.2.2.2.2.2.2.2.2.2.2.1, es311.2.2.2.2.2.2.2.2.2.2.2.2.2.1, rfl⟩ (fun s313 Is313 Fs313 (es313 : s313 98 15 = t0 98 15 ∧ s313 98 16 = t0 98 16 ∧ s313 98 17 = t0 98 17 ∧ s313 98 18 = t0 98 18 ∧ s313 98 13 = 5 ∧ s313 98 14 = (t0 98 16) ∧ s313 98 5 = t0 98 5 ∧ s313 98 6 = t0 98 6 ∧ s313 98 7 = t0 98 7 ∧ s313 98 8 = t0 98 8 ∧ s313 98 9 = t0 98 9 ∧ s313 101 18 = t0 101 18 ∧ s313 101 25 = t0 101 25 ∧ s313 101 43 = t0 101 43 ∧ s313 = h_up s311 98 14 (t0 98 16)) => ?_))
            refine h_vret rfl rfl (h_Kn ?_)
            refine h_goto (pc' := 0) rfl rfl ?_
            refine d_toL (g_inj ns) hlw273 hRw273 (fun lvw314 memw314 hlw314 hRw314 => ?_)
            show h_T g_P (g_Y ns) 62 30 [(1, .int z272), (0, .ref 63)] [] s271 _
            exact h_wk [(0, .ref 63), (1, .int z272)] ⟨rfl, rfl, trivial⟩ (ih _ _ Is271 Is313 Fs271 Fs313 z272 _ hz272  (by omega) (by omega) (by omega) (by omega) (by omega) (by omega) (by omega) (by omega) (by omega) (fun h => absurd h (by omega)) (Or.inl ⟨by omega, by omega, by omega, by omega⟩) (by omega) _ _ (h_al_ok ⟨rfl, trivial⟩ hlw314) hRw314)
    · show h_T g_P (g_Y ns) 62 30 [(0, .ref 63), (1, .int x1)] [] s0 _
      refine h_iload_n (pc' := 31) rfl rfl rfl ?_
      refine h_bipush (pc' := 33) (x := (Int32.ofInt 8)) rfl rfl cb_8 ?_
      refine h_cgt (tg := 53) (pc' := 36) rfl rfl rfl hx1 ci_8 (fun c315 => ?_) (fun c315 => ?_)
      · refine d_toM (g_inj ns) hl2 hR2 (fun lvw316 memw316 hlw316 hRw316 => ?_)
        show h_T g_P (g_Y ns) 152 0 [(0, .ref 98)] [] t0 _
        refine h_aload_n (pc' := 1) rfl rfl rfl ?_
        refine h_getI (pc' := 4) (v := t0 98 13) rfl rfl rfl rfl rfl rfl (fun z317 hz317 => ?_)
        have tz317 := tf_98_13 J0
        refine h_zne (tg := 167) (pc' := 7) rfl rfl rfl hz317 (fun c318 => absurd c318 (by omega)) (fun c318 => ?_)
        clear hz317
        refine h_aload_n (pc' := 8) rfl rfl rfl ?_
        refine h_getI (pc' := 11) (v := t0 98 17) rfl rfl rfl rfl rfl rfl (fun z319 hz319 => ?_)
        have tz319 := tf_98_17 J0
        refine h_iconst (pc' := 12) (x := (Int32.ofInt 2)) rfl rfl rfl ?_
        refine h_cne (tg := 167) (pc' := 15) rfl rfl rfl hz319 ci_2 (fun c320 => ?_) (fun c320 => absurd c320 (by omega))
        clear hz319
        refine d_toL (g_inj ns) hlw316 hRw316 (fun lvw321 memw321 hlw321 hRw321 => ?_)
        show h_T g_P (g_Y ns) 62 53 [(0, .ref 63), (1, .int x1)] [] s0 _
        exact h_wk [(0, .ref 63)] ⟨rfl, trivial⟩ (kx0 _ _ I0 J0 F0_ H0_ (by omega) (by omega) (by omega) (by omega) (by omega) (ex9) (by omega) (by omega) (Or.inr (Or.inr (Or.inr (Or.inr ⟨by omega, by omega, by omega, by omega, by omega, by omega⟩)))) _ _ (h_al_ok ⟨rfl, trivial⟩ hlw321) hRw321)
      · refine h_aload_n (pc' := 37) rfl rfl rfl ?_
        refine h_call (sp := false) (pc' := 40) (M := [(0, .ref 63)]) rfl rfl rfl rfl rfl rfl rfl rfl ?_
        refine h_aload_n (pc' := 1) rfl rfl rfl ?_
        refine h_getI (pc' := 4) (v := s0 63 2) rfl rfl rfl rfl rfl rfl (fun z322 hz322 => ?_)
        have tz322 := tf_63_2 I0
        refine h_zne (tg := 22) (pc' := 7) rfl rfl rfl hz322 (fun c323 => absurd c323 (by omega)) (fun c323 => ?_)
        clear hz322
        refine h_aload_n (pc' := 8) rfl rfl rfl ?_
        refine h_getR (pc' := 11) rfl rfl rfl rfl rfl ?_
        refine h_getI (pc' := 14) (v := s0 64 3) rfl rfl rfl rfl rfl rfl (fun z324 hz324 => ?_)
        have tz324 := tf_64_3 I0
        refine h_iconst (pc' := 15) (x := (Int32.ofInt 2)) rfl rfl rfl ?_
        refine h_cne (tg := 22) (pc' := 18) rfl rfl rfl hz324 ci_2 (fun c325 => ?_) (fun c325 => absurd c325 (by omega))
        clear hz324
        refine h_iconst (pc' := 23) (x := (Int32.ofInt 0)) rfl rfl rfl ?_
        refine h_zret rfl rfl ci_0 (by omega) (h_Kv ?_)
        refine h_zeq (tg := 53) (pc' := 43) rfl rfl rfl ci_0 (fun c326 => ?_) (fun c326 => absurd c326 (by omega))
        refine d_toM (g_inj ns) hl2 hR2 (fun lvw327 memw327 hlw327 hRw327 => ?_)
        show h_T g_P (g_Y ns) 152 0 [(0, .ref 98)] [] t0 _
        refine h_aload_n (pc' := 1) rfl rfl rfl ?_
        refine h_getI (pc' := 4) (v := t0 98 13) rfl rfl rfl rfl rfl rfl (fun z328 hz328 => ?_)
        have tz328 := tf_98_13 J0
        refine h_zne (tg := 167) (pc' := 7) rfl rfl rfl hz328 (fun c329 => absurd c329 (by omega)) (fun c329 => ?_)
        clear hz328
        refine h_aload_n (pc' := 8) rfl rfl rfl ?_
        refine h_getI (pc' := 11) (v := t0 98 17) rfl rfl rfl rfl rfl rfl (fun z330 hz330 => ?_)
        have tz330 := tf_98_17 J0
        refine h_iconst (pc' := 12) (x := (Int32.ofInt 2)) rfl rfl rfl ?_
        refine h_cne (tg := 167) (pc' := 15) rfl rfl rfl hz330 ci_2 (fun c331 => ?_) (fun c331 => absurd c331 (by omega))
        clear hz330
        refine d_toL (g_inj ns) hlw327 hRw327 (fun lvw332 memw332 hlw332 hRw332 => ?_)
        show h_T g_P (g_Y ns) 62 53 [(0, .ref 63), (1, .int x1)] [] s0 _
        exact h_wk [(0, .ref 63)] ⟨rfl, trivial⟩ (kx0 _ _ I0 J0 F0_ H0_ (by omega) (by omega) (by omega) (by omega) (by omega) (ex9) (by omega) (by omega) (Or.inr (Or.inr (Or.inr (Or.inr ⟨by omega, by omega, by omega, by omega, by omega, by omega⟩)))) _ _ (h_al_ok ⟨rfl, trivial⟩ hlw332) hRw332)
