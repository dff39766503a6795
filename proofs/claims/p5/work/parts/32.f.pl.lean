set_option maxHeartbeats 100000000 in
theorem lp_pl {ns : Nat} {σ1 σ2 : h_S} (hI1 : h_I σ1) (hI2 : h_I σ2) (hTL : d_tape σ1 σ2) {cs1 cs2 : List d_Fr} {Q : d_Q} (kx0 : ∀ (s t : h_S), h_I s → h_I t → h_F (k_in k_pl) s σ1 → h_F (k_in k_pm) t σ2 → (s 64 2 = t 98 15) → (s 64 4 = t 98 16) → (s 63 2 = t 98 13) → (s 64 2 ≤ s 64 1) → (σ1 64 2 ≤ s 64 2) → (d_ok s t) → (s 63 5 = 1) → (t 98 7 = 1) → (((1 ≤ s 63 2 ∧ s 63 2 ≤ 6) ∧ (1 ≤ t 98 13 ∧ t 98 13 ≤ 6) ∧ (s 63 2 = t 98 13) ∧ (s 63 3 = t 98 14)) ∨ ((s 63 2 = 0) ∧ (s 64 3 = 0) ∧ (t 98 13 = 0) ∧ (t 98 17 = 0) ∧ (s 64 4 = s 64 1)) ∨ ((s 63 2 = 0) ∧ (s 64 3 = 1) ∧ (t 98 13 = 0) ∧ (t 98 17 = 1) ∧ (s 64 4 < s 64 2)) ∨ ((s 63 2 = 0) ∧ (s 64 3 = 2) ∧ (t 98 13 = 0) ∧ (t 98 17 = 2) ∧ (0 ≤ s 64 5 ∧ s 64 5 ≤ 99) ∧ (0 ≤ t 98 18 ∧ t 98 18 ≤ 99) ∧ (s 64 5 = t 98 18) ∧ (s 64 4 < s 64 2)) ∨ ((s 63 2 = 0) ∧ (s 64 3 = 3) ∧ (t 98 13 = 0) ∧ (t 98 17 = 3) ∧ (s 64 4 < s 64 2))) → ∀ lv2 mem2, h_loc [(0, .ref 98)] lv2 → h_R (g_Y ns) t mem2 → h_T g_P (g_Y ns) 62 53 [(0, .ref 63)] [] s (d_cs g_P (g_Y ns) cs1 (d_L g_P (g_Y ns) (152, 167, lv2, []) cs2 mem2 Q))) : ∀ (n : Nat) (s t : h_S), h_I s → h_I t → h_F (k_in k_pl) s σ1 → h_F (k_in k_pm) t σ2 → ∀ (x1 : Int32) (a1 : Int), x1.toInt = a1 → (s 64 2 = t 98 15) → (s 64 4 = t 98 16) → (s 63 2 = t 98 13) → (s 64 2 ≤ s 64 1) → (s 63 5 = 1) → (t 98 7 = 1) → (0 ≤ a1 ∧ a1 ≤ 9) → (s 63 2 = 0 → a1 = s 66 10) → (σ1 64 2 ≤ s 64 2) → (d_ok s t) → (((1 ≤ s 63 2 ∧ s 63 2 ≤ 6) ∧ (1 ≤ t 98 13 ∧ t 98 13 ≤ 6) ∧ (s 63 2 = t 98 13) ∧ (s 63 3 = t 98 14)) ∨ ((s 63 2 = 0) ∧ (s 64 3 = 0) ∧ (t 98 13 = 0) ∧ (t 98 17 = 0) ∧ (s 64 4 = s 64 1)) ∨ ((s 63 2 = 0) ∧ (s 64 3 = 1) ∧ (t 98 13 = 0) ∧ (t 98 17 = 1) ∧ (s 64 4 < s 64 2)) ∨ ((s 63 2 = 0) ∧ (s 64 3 = 2) ∧ (t 98 13 = 0) ∧ (t 98 17 = 2) ∧ (0 ≤ s 64 5 ∧ s 64 5 ≤ 99) ∧ (0 ≤ t 98 18 ∧ t 98 18 ≤ 99) ∧ (s 64 5 = t 98 18) ∧ (s 64 4 < s 64 2)) ∨ ((s 63 2 = 0) ∧ (s 64 3 = 3) ∧ (t 98 13 = 0) ∧ (t 98 17 = 3) ∧ (s 64 4 < s 64 2))) → (161 - s 64 2) * 10 - s 63 2 + 6 ≤ (n : Int) → ∀ lv2 mem2, h_loc [(0, .ref 98)] lv2 → h_R (g_Y ns) t mem2 → h_T g_P (g_Y ns) 62 30 [(0, .ref 63), (1, .int x1)] [] s (d_cs g_P (g_Y ns) cs1 (d_L g_P (g_Y ns) (152, 0, lv2, []) cs2 mem2 Q)) := by
  have hT := hTL.1
  have hL := hTL.2
  intro n
  induction n with
  | zero => intro s0 t0 I0 J0 F0_ H0_ x1 a1 hx1 ex0 ex1 ex2 ex3 ex4 ex5 ex6 ex7 ex8 ex9 pc0 hm lv2 mem2 hl2 hR2; have ge0 := tf_64_1 hI1; have ge1 := tf_64_2 I0; have ge2 := tf_63_2 I0; have ge3 := tf_66_8 I0; have ge4 := tf_66_9 I0; have ge5 := tf_66_10 I0; have ge6 := tf_69_2 I0; have ge7 := tf_72_2 I0; have ge8 := tf_98_8 J0; have ge9 := tf_98_9 J0; have ge10 := F0_ 64 1 rfl; exfalso; omega
  | succ n ih =>
    intro s0 t0 I0 J0 F0_ H0_ x1 a1 hx1 ex0 ex1 ex2 ex3 ex4 ex5 ex6 ex7 ex8 ex9 pc0 hm lv2 mem2 hl2 hR2; have ge0 := tf_64_1 hI1; have ge1 := tf_64_2 I0; have ge2 := tf_63_2 I0; have ge3 := tf_66_8 I0; have ge4 := tf_66_9 I0; have ge5 := tf_66_10 I0; have ge6 := tf_69_2 I0; have ge7 := tf_72_2 I0; have ge8 := tf_98_8 J0; have ge9 := tf_98_9 J0; have ge10 := F0_ 64 1 rfl
    rcases pc0 with pc0 | pc0 | pc0 | pc0 | pc0
    · show h_T g_P (g_Y ns) 62 30 [(0, .ref 63), (1, .int x1)] [] s0 _
      refine h_iload_n (pc' := 31) rfl rfl rfl ?_
      refine h_bipush (pc' := 33) (x := (Int32.ofInt 8)) rfl rfl cb_8 ?_
      refine h_cgt (tg := 53) (pc' := 36) rfl rfl rfl hx1 ci_8 (fun c1 => ?_) (fun c1 => ?_)
      · refine d_toM (g_inj ns) hl2 hR2 (fun lvw2 memw2 hlw2 hRw2 => ?_)
        show h_T g_P (g_Y ns) 152 0 [(0, .ref 98)] [] t0 _
        refine h_aload_n (pc' := 1) rfl rfl rfl ?_
        refine h_getI (pc' := 4) (v := t0 98 13) rfl rfl rfl rfl rfl rfl (fun z3 hz3 => ?_)
        have tz3 := tf_98_13 J0
        refine h_zne (tg := 167) (pc' := 7) rfl rfl rfl hz3 (fun c4 => ?_) (fun c4 => absurd c4 (by omega))
        clear hz3
        refine d_toL (g_inj ns) hlw2 hRw2 (fun lvw5 memw5 hlw5 hRw5 => ?_)
        show h_T g_P (g_Y ns) 62 53 [(0, .ref 63), (1, .int x1)] [] s0 _
        exact h_wk [(0, .ref 63)] ⟨rfl, trivial⟩ (kx0 _ _ I0 J0 F0_ H0_ (by omega) (by omega) (by omega) (by omega) (by omega) (fun h => absurd h (by omega)) (by omega) (by omega) (Or.inl ⟨by omega, by omega, by omega, by omega⟩) _ _ (h_al_ok ⟨rfl, trivial⟩ hlw5) hRw5)
      · refine h_aload_n (pc' := 37) rfl rfl rfl ?_
        refine h_call (sp := false) (pc' := 40) (M := [(0, .ref 63)]) rfl rfl rfl rfl rfl rfl rfl rfl ?_
        refine h_aload_n (pc' := 1) rfl rfl rfl ?_
        refine h_getI (pc' := 4) (v := s0 63 2) rfl rfl rfl rfl rfl rfl (fun z6 hz6 => ?_)
        have tz6 := tf_63_2 I0
        refine h_zne (tg := 22) (pc' := 7) rfl rfl rfl hz6 (fun c7 => ?_) (fun c7 => absurd c7 (by omega))
        clear hz6
        refine h_iconst (pc' := 23) (x := (Int32.ofInt 0)) rfl rfl rfl ?_
        refine h_zret rfl rfl ci_0 (by omega) (h_Kv ?_)
        refine h_zeq (tg := 53) (pc' := 43) rfl rfl rfl ci_0 (fun c8 => ?_) (fun c8 => absurd c8 (by omega))
        refine d_toM (g_inj ns) hl2 hR2 (fun lvw9 memw9 hlw9 hRw9 => ?_)
        show h_T g_P (g_Y ns) 152 0 [(0, .ref 98)] [] t0 _
        refine h_aload_n (pc' := 1) rfl rfl rfl ?_
        refine h_getI (pc' := 4) (v := t0 98 13) rfl rfl rfl rfl rfl rfl (fun z10 hz10 => ?_)
        have tz10 := tf_98_13 J0
        refine h_zne (tg := 167) (pc' := 7) rfl rfl rfl hz10 (fun c11 => ?_) (fun c11 => absurd c11 (by omega))
        clear hz10
        refine d_toL (g_inj ns) hlw9 hRw9 (fun lvw12 memw12 hlw12 hRw12 => ?_)
        show h_T g_P (g_Y ns) 62 53 [(0, .ref 63), (1, .int x1)] [] s0 _
        exact h_wk [(0, .ref 63)] ⟨rfl, trivial⟩ (kx0 _ _ I0 J0 F0_ H0_ (by omega) (by omega) (by omega) (by omega) (by omega) (fun h => absurd h (by omega)) (by omega) (by omega) (Or.inl ⟨by omega, by omega, by omega, by omega⟩) _ _ (h_al_ok ⟨rfl, trivial⟩ hlw12) hRw12)
    · show h_T g_P (g_Y ns) 62 30 [(0, .ref 63), (1, .int x1)] [] s0 _
      refine h_iload_n (pc' := 31) rfl rfl rfl ?_
      refine h_bipush (pc' := 33) (x := (Int32.ofInt 8)) rfl rfl cb_8 ?_
      refine h_cgt (tg := 53) (pc' := 36) rfl rfl rfl hx1 ci_8 (fun c13 => ?_) (fun c13 => ?_)
      · refine d_toM (g_inj ns) hl2 hR2 (fun lvw14 memw14 hlw14 hRw14 => ?_)
        show h_T g_P (g_Y ns) 152 0 [(0, .ref 98)] [] t0 _
        refine h_aload_n (pc' := 1) rfl rfl rfl ?_
        refine h_getI (pc' := 4) (v := t0 98 13) rfl rfl rfl rfl rfl rfl (fun z15 hz15 => ?_)
        have tz15 := tf_98_13 J0
        refine h_zne (tg := 167) (pc' := 7) rfl rfl rfl hz15 (fun c16 => absurd c16 (by omega)) (fun c16 => ?_)
        clear hz15
        refine h_aload_n (pc' := 8) rfl rfl rfl ?_
        refine h_getI (pc' := 11) (v := t0 98 17) rfl rfl rfl rfl rfl rfl (fun z17 hz17 => ?_)
        have tz17 := tf_98_17 J0
        refine h_iconst (pc' := 12) (x := (Int32.ofInt 2)) rfl rfl rfl ?_
        refine h_cne (tg := 167) (pc' := 15) rfl rfl rfl hz17 ci_2 (fun c18 => ?_) (fun c18 => absurd c18 (by omega))
        clear hz17
        refine d_toL (g_inj ns) hlw14 hRw14 (fun lvw19 memw19 hlw19 hRw19 => ?_)
        show h_T g_P (g_Y ns) 62 53 [(0, .ref 63), (1, .int x1)] [] s0 _
        exact h_wk [(0, .ref 63)] ⟨rfl, trivial⟩ (kx0 _ _ I0 J0 F0_ H0_ (by omega) (by omega) (by omega) (by omega) (by omega) (ex9) (by omega) (by omega) (Or.inr (Or.inl ⟨by omega, by omega, by omega, by omega, by omega⟩)) _ _ (h_al_ok ⟨rfl, trivial⟩ hlw19) hRw19)
      · refine h_aload_n (pc' := 37) rfl rfl rfl ?_
        refine h_call (sp := false) (pc' := 40) (M := [(0, .ref 63)]) rfl rfl rfl rfl rfl rfl rfl rfl ?_
        refine h_aload_n (pc' := 1) rfl rfl rfl ?_
        refine h_getI (pc' := 4) (v := s0 63 2) rfl rfl rfl rfl rfl rfl (fun z20 hz20 => ?_)
        have tz20 := tf_63_2 I0
        refine h_zne (tg := 22) (pc' := 7) rfl rfl rfl hz20 (fun c21 => absurd c21 (by omega)) (fun c21 => ?_)
        clear hz20
        refine h_aload_n (pc' := 8) rfl rfl rfl ?_
        refine h_getR (pc' := 11) rfl rfl rfl rfl rfl ?_
        refine h_getI (pc' := 14) (v := s0 64 3) rfl rfl rfl rfl rfl rfl (fun z22 hz22 => ?_)
        have tz22 := tf_64_3 I0
        refine h_iconst (pc' := 15) (x := (Int32.ofInt 2)) rfl rfl rfl ?_
        refine h_cne (tg := 22) (pc' := 18) rfl rfl rfl hz22 ci_2 (fun c23 => ?_) (fun c23 => absurd c23 (by omega))
        clear hz22
        refine h_iconst (pc' := 23) (x := (Int32.ofInt 0)) rfl rfl rfl ?_
        refine h_zret rfl rfl ci_0 (by omega) (h_Kv ?_)
        refine h_zeq (tg := 53) (pc' := 43) rfl rfl rfl ci_0 (fun c24 => ?_) (fun c24 => absurd c24 (by omega))
        refine d_toM (g_inj ns) hl2 hR2 (fun lvw25 memw25 hlw25 hRw25 => ?_)
        show h_T g_P (g_Y ns) 152 0 [(0, .ref 98)] [] t0 _
        refine h_aload_n (pc' := 1) rfl rfl rfl ?_
        refine h_getI (pc' := 4) (v := t0 98 13) rfl rfl rfl rfl rfl rfl (fun z26 hz26 => ?_)
        have tz26 := tf_98_13 J0
        refine h_zne (tg := 167) (pc' := 7) rfl rfl rfl hz26 (fun c27 => absurd c27 (by omega)) (fun c27 => ?_)
        clear hz26
        refine h_aload_n (pc' := 8) rfl rfl rfl ?_
        refine h_getI (pc' := 11) (v := t0 98 17) rfl rfl rfl rfl rfl rfl (fun z28 hz28 => ?_)
        have tz28 := tf_98_17 J0
        refine h_iconst (pc' := 12) (x := (Int32.ofInt 2)) rfl rfl rfl ?_
        refine h_cne (tg := 167) (pc' := 15) rfl rfl rfl hz28 ci_2 (fun c29 => ?_) (fun c29 => absurd c29 (by omega))
        clear hz28
        refine d_toL (g_inj ns) hlw25 hRw25 (fun lvw30 memw30 hlw30 hRw30 => ?_)
        show h_T g_P (g_Y ns) 62 53 [(0, .ref 63), (1, .int x1)] [] s0 _
        exact h_wk [(0, .ref 63)] ⟨rfl, trivial⟩ (kx0 _ _ I0 J0 F0_ H0_ (by omega) (by omega) (by omega) (by omega) (by omega) (ex9) (by omega) (by omega) (Or.inr (Or.inl ⟨by omega, by omega, by omega, by omega, by omega⟩)) _ _ (h_al_ok ⟨rfl, trivial⟩ hlw30) hRw30)
    · show h_T g_P (g_Y ns) 62 30 [(0, .ref 63), (1, .int x1)] [] s0 _
      refine h_iload_n (pc' := 31) rfl rfl rfl ?_
      refine h_bipush (pc' := 33) (x := (Int32.ofInt 8)) rfl rfl cb_8 ?_
      refine h_cgt (tg := 53) (pc' := 36) rfl rfl rfl hx1 ci_8 (fun c31 => ?_) (fun c31 => ?_)
      · refine d_toM (g_inj ns) hl2 hR2 (fun lvw32 memw32 hlw32 hRw32 => ?_)
        show h_T g_P (g_Y ns) 152 0 [(0, .ref 98)] [] t0 _
        refine h_aload_n (pc' := 1) rfl rfl rfl ?_
        refine h_getI (pc' := 4) (v := t0 98 13) rfl rfl rfl rfl rfl rfl (fun z33 hz33 => ?_)
        have tz33 := tf_98_13 J0
        refine h_zne (tg := 167) (pc' := 7) rfl rfl rfl hz33 (fun c34 => absurd c34 (by omega)) (fun c34 => ?_)
        clear hz33
        refine h_aload_n (pc' := 8) rfl rfl rfl ?_
        refine h_getI (pc' := 11) (v := t0 98 17) rfl rfl rfl rfl rfl rfl (fun z35 hz35 => ?_)
        have tz35 := tf_98_17 J0
        refine h_iconst (pc' := 12) (x := (Int32.ofInt 2)) rfl rfl rfl ?_
        refine h_cne (tg := 167) (pc' := 15) rfl rfl rfl hz35 ci_2 (fun c36 => ?_) (fun c36 => absurd c36 (by omega))
        clear hz35
        refine d_toL (g_inj ns) hlw32 hRw32 (fun lvw37 memw37 hlw37 hRw37 => ?_)
        show h_T g_P (g_Y ns) 62 53 [(0, .ref 63), (1, .int x1)] [] s0 _
        exact h_wk [(0, .ref 63)] ⟨rfl, trivial⟩ (kx0 _ _ I0 J0 F0_ H0_ (by omega) (by omega) (by omega) (by omega) (by omega) (ex9) (by omega) (by omega) (Or.inr (Or.inr (Or.inl ⟨by omega, by omega, by omega, by omega, by omega⟩))) _ _ (h_al_ok ⟨rfl, trivial⟩ hlw37) hRw37)
      · refine h_aload_n (pc' := 37) rfl rfl rfl ?_
        refine h_call (sp := false) (pc' := 40) (M := [(0, .ref 63)]) rfl rfl rfl rfl rfl rfl rfl rfl ?_
        refine h_aload_n (pc' := 1) rfl rfl rfl ?_
        refine h_getI (pc' := 4) (v := s0 63 2) rfl rfl rfl rfl rfl rfl (fun z38 hz38 => ?_)
        have tz38 := tf_63_2 I0
        refine h_zne (tg := 22) (pc' := 7) rfl rfl rfl hz38 (fun c39 => absurd c39 (by omega)) (fun c39 => ?_)
        clear hz38
        refine h_aload_n (pc' := 8) rfl rfl rfl ?_
        refine h_getR (pc' := 11) rfl rfl rfl rfl rfl ?_
        refine h_getI (pc' := 14) (v := s0 64 3) rfl rfl rfl rfl rfl rfl (fun z40 hz40 => ?_)
        have tz40 := tf_64_3 I0
        refine h_iconst (pc' := 15) (x := (Int32.ofInt 2)) rfl rfl rfl ?_
        refine h_cne (tg := 22) (pc' := 18) rfl rfl rfl hz40 ci_2 (fun c41 => ?_) (fun c41 => absurd c41 (by omega))
        clear hz40
        refine h_iconst (pc' := 23) (x := (Int32.ofInt 0)) rfl rfl rfl ?_
        refine h_zret rfl rfl ci_0 (by omega) (h_Kv ?_)
        refine h_zeq (tg := 53) (pc' := 43) rfl rfl rfl ci_0 (fun c42 => ?_) (fun c42 => absurd c42 (by omega))
        refine d_toM (g_inj ns) hl2 hR2 (fun lvw43 memw43 hlw43 hRw43 => ?_)
        show h_T g_P (g_Y ns) 152 0 [(0, .ref 98)] [] t0 _
        refine h_aload_n (pc' := 1) rfl rfl rfl ?_
        refine h_getI (pc' := 4) (v := t0 98 13) rfl rfl rfl rfl rfl rfl (fun z44 hz44 => ?_)
        have tz44 := tf_98_13 J0
        refine h_zne (tg := 167) (pc' := 7) rfl rfl rfl hz44 (fun c45 => absurd c45 (by omega)) (fun c45 => ?_)
        clear hz44
        refine h_aload_n (pc' := 8) rfl rfl rfl ?_
        refine h_getI (pc' := 11) (v := t0 98 17) rfl rfl rfl rfl rfl rfl (fun z46 hz46 => ?_)
        have tz46 := tf_98_17 J0
        refine h_iconst (pc' := 12) (x := (Int32.ofInt 2)) rfl rfl rfl ?_
        refine h_cne (tg := 167) (pc' := 15) rfl rfl rfl hz46 ci_2 (fun c47 => ?_) (fun c47 => absurd c47 (by omega))
        clear hz46
        refine d_toL (g_inj ns) hlw43 hRw43 (fun lvw48 memw48 hlw48 hRw48 => ?_)
        show h_T g_P (g_Y ns) 62 53 [(0, .ref 63), (1, .int x1)] [] s0 _
        exact h_wk [(0, .ref 63)] ⟨rfl, trivial⟩ (kx0 _ _ I0 J0 F0_ H0_ (by omega) (by omega) (by omega) (by omega) (by omega) (ex9) (by omega) (by omega) (Or.inr (Or.inr (Or.inl ⟨by omega, by omega, by omega, by omega, by omega⟩))) _ _ (h_al_ok ⟨rfl, trivial⟩ hlw48) hRw48)
    · show h_T g_P (g_Y ns) 62 30 [(0, .ref 63), (1, .int x1)] [] s0 _
      refine h_iload_n (pc' := 31) rfl rfl rfl ?_
      refine h_bipush (pc' := 33) (x := (Int32.ofInt 8)) rfl rfl cb_8 ?_
      refine h_cgt (tg := 53) (pc' := 36) rfl rfl rfl hx1 ci_8 (fun c49 => ?_) (fun c49 => ?_)
      · refine d_toM (g_inj ns) hl2 hR2 (fun lvw50 memw50 hlw50 hRw50 => ?_)
        show h_T g_P (g_Y ns) 152 0 [(0, .ref 98)] [] t0 _
        refine h_aload_n (pc' := 1) rfl rfl rfl ?_
        refine h_getI (pc' := 4) (v := t0 98 13) rfl rfl rfl rfl rfl rfl (fun z51 hz51 => ?_)
        have tz51 := tf_98_13 J0
        refine h_zne (tg := 167) (pc' := 7) rfl rfl rfl hz51 (fun c52 => absurd c52 (by omega)) (fun c52 => ?_)
        clear hz51
        refine h_aload_n (pc' := 8) rfl rfl rfl ?_
        refine h_getI (pc' := 11) (v := t0 98 17) rfl rfl rfl rfl rfl rfl (fun z53 hz53 => ?_)
        have tz53 := tf_98_17 J0
        refine h_iconst (pc' := 12) (x := (Int32.ofInt 2)) rfl rfl rfl ?_
        refine h_cne (tg := 167) (pc' := 15) rfl rfl rfl hz53 ci_2 (fun c54 => absurd c54 (by omega)) (fun c54 => ?_)
        clear hz53
        refine h_aload_n (pc' := 16) rfl rfl rfl ?_
        refine h_getR (pc' := 19) rfl rfl rfl rfl rfl ?_
        refine h_bipush (pc' := 21) (x := (Int32.ofInt 43)) rfl rfl cb_43 ?_
        refine h_iald (pc' := 22) (v := t0 101 43) rfl rfl rfl ci_43 (by omega) (by omega) rfl (fun z55 hz55 => ?_)
        have tz55 := ty_101_10 J0 43 (by omega)
        refine h_bipush (pc' := 24) (x := (Int32.ofInt 8)) rfl rfl cb_8 ?_
        refine h_cne (tg := 35) (pc' := 27) rfl rfl rfl hz55 ci_8 (fun c56 => ?_) (fun c56 => ?_)
        · clear hz55
          refine h_aload_n (pc' := 36) rfl rfl rfl ?_
          refine h_getI (pc' := 39) (v := t0 98 18) rfl rfl rfl rfl rfl rfl (fun z57 hz57 => ?_)
          have tz57 := tf_98_18 J0
          refine h_bipush (pc' := 41) (x := (Int32.ofInt 10)) rfl rfl cb_10 ?_
          refine h_idiv (pc' := 42) rfl rfl hz57 ci_10 (by omega) (by omega) (fun z58 hz58 => ?_)
          clear hz57
          refine h_bipush (pc' := 44) (x := (Int32.ofInt 6)) rfl rfl cb_6 ?_
          refine h_cge (tg := 58) (pc' := 47) rfl rfl rfl hz58 ci_6 (fun c59 => ?_) (fun c59 => ?_)
          · clear hz58
            refine h_aload_n (pc' := 59) rfl rfl rfl ?_
            refine h_iconst (pc' := 60) (x := (Int32.ofInt 3)) rfl rfl rfl ?_
            refine h_call (sp := false) (pc' := 63) (M := [(0, .ref 98), (1, .int (Int32.ofInt 3))]) rfl rfl rfl rfl rfl rfl rfl rfl ?_
            refine h_aload_n (pc' := 1) rfl rfl rfl ?_
            refine h_getI (pc' := 4) (v := t0 98 13) rfl rfl rfl rfl rfl rfl (fun z60 hz60 => ?_)
            refine h_zne (tg := 20) (pc' := 7) rfl rfl rfl hz60 (fun c61 => absurd c61 (by omega)) (fun c61 => ?_)
            clear hz60
            refine h_aload_n (pc' := 8) rfl rfl rfl ?_
            refine h_iload_n (pc' := 9) rfl rfl rfl ?_
            refine h_put (pc' := 12) rfl rfl rfl rfl rfl rfl ci_3 rfl (h_fgt (E := fun s => s 98 15 = t0 98 15 ∧ s 98 16 = t0 98 16 ∧ s 98 17 = t0 98 17 ∧ s 98 18 = t0 98 18 ∧ s 98 13 = 3 ∧ s 98 14 = t0 98 14 ∧ s 98 5 = t0 98 5 ∧ s 98 6 = t0 98 6 ∧ s 98 7 = t0 98 7 ∧ s 98 8 = t0 98 8 ∧ s 98 9 = t0 98 9 ∧ s 101 18 = t0 101 18 ∧ s 101 25 = t0 101 25 ∧ s 101 43 = t0 101 43 ∧ s = h_up t0 98 13 3) _ (if_98_13 J0 (by omega)) (H0_.up rfl) ⟨rfl, rfl, rfl, rfl, rfl, rfl, rfl, rfl, rfl, rfl, rfl, rfl, rfl, rfl, rfl⟩ (fun s62 Is62 Fs62 (es62 : s62 98 15 = t0 98 15 ∧ s62 98 16 = t0 98 16 ∧ s62 98 17 = t0 98 17 ∧ s62 98 18 = t0 98 18 ∧ s62 98 13 = 3 ∧ s62 98 14 = t0 98 14 ∧ s62 98 5 = t0 98 5 ∧ s62 98 6 = t0 98 6 ∧ s62 98 7 = t0 98 7 ∧ s62 98 8 = t0 98 8 ∧ s62 98 9 = t0 98 9 ∧ s62 101 18 = t0 101 18 ∧ s62 101 25 = t0 101 25 ∧ s62 101 43 = t0 101 43 ∧ s62 = h_up t0 98 13 3) => ?_))
            refine h_aload_n (pc' := 13) rfl rfl rfl ?_
            refine h_aload_n (pc' := 14) rfl rfl rfl ?_
            refine h_getI (pc' := 17) (v := t0 98 16) rfl rfl rfl rfl rfl es62.2.1 (fun z63 hz63 => ?_)
            have tz63 := tf_98_16 J0
            refine h_put (pc' := 20) rfl rfl rfl rfl rfl rfl hz63 rfl (h_fgt (E := fun s => s 98 15 = t0 98 15 ∧ s 98 16 = t0 98 16 ∧ s 98 17 = t0 98 17 ∧ s 98 18 = t0 98 18 ∧ s 98 13 = 3 ∧ s 98 14 = (t0 98 16) ∧ s 98 5 = t0 98 5 ∧ s 98 6 = t0 98 6 ∧ s 98 7 = t0 98 7 ∧ s 98 8 = t0 98 8 ∧ s 98 9 = t0 98 9 ∧ s 101 18 = t0 101 18 ∧ s 101 25 = t0 101 25 ∧ s 101 43 = t0 101 43 ∧ s = h_up s62 98 14 (t0 98 16)) _ (if_98_14 Is62 (h_rgv hz63)) (Fs62.up rfl) ⟨es62.1, es62.2.1, es62.2.2.1, es62.2.2.2.1, es62.2.2.2.2.1, rfl, es62.2.2.2.2.2.2.1, es62.2.2.2.2.2.2.2.1, es62.2.2.2.2.2.2.2.2.1, es62.2.2.2.2.2.2.2.2.2.1, es62.2.2.2.2.2.2.2.2.2.2.1, es62.2.2.2.2.2.2.2.2.2.2.2.1, es62.2.2.2.2.2.2.2.2.2.2.2.2.1, es62.2.2.2.2.2.2.2.2.2.2.2.2.2.1, rfl⟩ (fun s64 Is64 Fs64 (es64 : s64 98 15 = t0 98 15 ∧ s64 98 16 = t0 98 16 ∧ s64 98 17 = t0 98 17 ∧ s64 98 18 = t0 98 18 ∧ s64 98 13 = 3 ∧ s64 98 14 = (t0 98 16) ∧ s64 98 5 = t0 98 5 ∧ s64 98 6 = t0 98 6 ∧ s64 98 7 = t0 98 7 ∧ s64 98 8 = t0 98 8 ∧ s64 98 9 = t0 98 9 ∧ s64 101 18 = t0 101 18 ∧ s64 101 25 = t0 101 25 ∧ s64 101 43 = t0 101 43 ∧ s64 = h_up s62 98 14 (t0 98 16)) => ?_))
            refine h_vret rfl rfl (h_Kn ?_)
            refine h_goto (pc' := 0) rfl rfl ?_
            exfalso
            omega
          · clear hz58
            refine h_aload_n (pc' := 48) rfl rfl rfl ?_
            refine h_getI (pc' := 51) (v := t0 98 18) rfl rfl rfl rfl rfl rfl (fun z65 hz65 => ?_)
            refine h_bipush (pc' := 53) (x := (Int32.ofInt 10)) rfl rfl cb_10 ?_
            refine h_irem (pc' := 54) rfl rfl hz65 ci_10 (by omega) (by omega) (fun z66 hz66 => ?_)
            clear hz65
            refine h_iconst (pc' := 55) (x := (Int32.ofInt 3)) rfl rfl rfl ?_
            refine h_clt (tg := 66) (pc' := 58) rfl rfl rfl hz66 ci_3 (fun c67 => ?_) (fun c67 => ?_)
            · clear hz66
              have gH68 : 0 ≤ t0 98 18 ∧ t0 98 18 ≤ 99 := by have ga := tf_98_18 J0; omega
              have oH68 : t0 98 8 = t0 98 8 := rfl
              have vH68 : t0 98 18 = t0 98 18 := rfl
              have uH68 := tf_98_8 J0
              refine lm_ho _ J0 (by omega) (fun H68 hH68 => (h_fgt (E := fun s => s 98 15 = t0 98 15 ∧ s 98 16 = t0 98 16 ∧ s 98 17 = t0 98 17 ∧ s 98 18 = t0 98 18 ∧ s 98 13 = t0 98 13 ∧ s 98 14 = t0 98 14 ∧ s 98 5 = t0 98 5 ∧ s 98 6 = t0 98 6 ∧ s 98 7 = t0 98 7 ∧ s 98 8 = H68 ∧ s 98 9 = t0 98 9 ∧ s 101 18 = t0 101 18 ∧ s 101 25 = t0 101 25 ∧ s 101 43 = t0 101 43 ∧ s = h_up t0 98 8 H68) _ (if_98_8 J0 (by omega)) (H0_.up rfl) ⟨rfl, rfl, rfl, rfl, rfl, rfl, rfl, rfl, rfl, rfl, rfl, rfl, rfl, rfl, rfl⟩ (fun s69 Is69 Fs69 (es69 : s69 98 15 = t0 98 15 ∧ s69 98 16 = t0 98 16 ∧ s69 98 17 = t0 98 17 ∧ s69 98 18 = t0 98 18 ∧ s69 98 13 = t0 98 13 ∧ s69 98 14 = t0 98 14 ∧ s69 98 5 = t0 98 5 ∧ s69 98 6 = t0 98 6 ∧ s69 98 7 = t0 98 7 ∧ s69 98 8 = H68 ∧ s69 98 9 = t0 98 9 ∧ s69 101 18 = t0 101 18 ∧ s69 101 25 = t0 101 25 ∧ s69 101 43 = t0 101 43 ∧ s69 = h_up t0 98 8 H68) => ?_)))
              have gH70 : 0 ≤ s69 98 18 ∧ s69 98 18 ≤ 99 := by have ga := es69.2.2.2.1; omega
              have oH70 : s69 98 9 = t0 98 9 := es69.2.2.2.2.2.2.2.2.2.2.1
              have vH70 : s69 98 18 = t0 98 18 := es69.2.2.2.1
              have uH70 := tf_98_9 Is69
              refine lm_hg _ Is69 (by omega) (fun H70 hH70 => (h_fgt (E := fun s => s 98 15 = t0 98 15 ∧ s 98 16 = t0 98 16 ∧ s 98 17 = t0 98 17 ∧ s 98 18 = t0 98 18 ∧ s 98 13 = t0 98 13 ∧ s 98 14 = t0 98 14 ∧ s 98 5 = t0 98 5 ∧ s 98 6 = t0 98 6 ∧ s 98 7 = t0 98 7 ∧ s 98 8 = H68 ∧ s 98 9 = H70 ∧ s 101 18 = t0 101 18 ∧ s 101 25 = t0 101 25 ∧ s 101 43 = t0 101 43 ∧ s = h_up s69 98 9 H70) _ (if_98_9 Is69 (by omega)) (Fs69.up rfl) ⟨es69.1, es69.2.1, es69.2.2.1, es69.2.2.2.1, es69.2.2.2.2.1, es69.2.2.2.2.2.1, es69.2.2.2.2.2.2.1, es69.2.2.2.2.2.2.2.1, es69.2.2.2.2.2.2.2.2.1, es69.2.2.2.2.2.2.2.2.2.1, rfl, es69.2.2.2.2.2.2.2.2.2.2.2.1, es69.2.2.2.2.2.2.2.2.2.2.2.2.1, es69.2.2.2.2.2.2.2.2.2.2.2.2.2.1, rfl⟩ (fun s71 Is71 Fs71 (es71 : s71 98 15 = t0 98 15 ∧ s71 98 16 = t0 98 16 ∧ s71 98 17 = t0 98 17 ∧ s71 98 18 = t0 98 18 ∧ s71 98 13 = t0 98 13 ∧ s71 98 14 = t0 98 14 ∧ s71 98 5 = t0 98 5 ∧ s71 98 6 = t0 98 6 ∧ s71 98 7 = t0 98 7 ∧ s71 98 8 = H68 ∧ s71 98 9 = H70 ∧ s71 101 18 = t0 101 18 ∧ s71 101 25 = t0 101 25 ∧ s71 101 43 = t0 101 43 ∧ s71 = h_up s69 98 9 H70) => ?_)))
              refine h_aload_n (pc' := 131) rfl rfl rfl ?_
              refine h_getR (pc' := 134) rfl rfl rfl rfl rfl ?_
              refine h_bipush (pc' := 136) (x := (Int32.ofInt 35)) rfl rfl cb_35 ?_
              refine h_aload_n (pc' := 137) rfl rfl rfl ?_
              refine h_getR (pc' := 140) rfl rfl rfl rfl rfl ?_
              refine h_bipush (pc' := 142) (x := (Int32.ofInt 43)) rfl rfl cb_43 ?_
              refine h_iald (pc' := 143) (v := t0 101 43) rfl rfl rfl ci_43 (by omega) (by omega) es71.2.2.2.2.2.2.2.2.2.2.2.2.2.1 (fun z72 hz72 => ?_)
              refine h_iadd (pc' := 144) rfl rfl ci_35 hz72 rfl (by omega) (by omega) (fun z73 hz73 => ?_)
              clear hz72
              refine h_aload_n (pc' := 145) rfl rfl rfl ?_
              refine h_getI (pc' := 148) (v := t0 98 18) rfl rfl rfl rfl rfl es71.2.2.2.1 (fun z74 hz74 => ?_)
              refine h_iast (pc' := 149) rfl rfl rfl rfl hz73 (by omega) (by omega) hz74 (h_fgt (E := fun s => s 98 15 = t0 98 15 ∧ s 98 16 = t0 98 16 ∧ s 98 17 = t0 98 17 ∧ s 98 18 = t0 98 18 ∧ s 98 13 = t0 98 13 ∧ s 98 14 = t0 98 14 ∧ s 98 5 = t0 98 5 ∧ s 98 6 = t0 98 6 ∧ s 98 7 = t0 98 7 ∧ s 98 8 = H68 ∧ s 98 9 = H70 ∧ s 101 18 = t0 101 18 ∧ s 101 25 = t0 101 25 ∧ s 101 43 = t0 101 43 ∧ s = h_up s71 101 (35 + (t0 101 43)) (t0 98 18)) _ (ip_101_9 Is71 (by omega) (by omega)) (Fs71.up rfl) ⟨es71.1, es71.2.1, es71.2.2.1, es71.2.2.2.1, es71.2.2.2.2.1, es71.2.2.2.2.2.1, es71.2.2.2.2.2.2.1, es71.2.2.2.2.2.2.2.1, es71.2.2.2.2.2.2.2.2.1, es71.2.2.2.2.2.2.2.2.2.1, es71.2.2.2.2.2.2.2.2.2.2.1, h_up_n2 (by omega) es71.2.2.2.2.2.2.2.2.2.2.2.1, h_up_n2 (by omega) es71.2.2.2.2.2.2.2.2.2.2.2.2.1, h_up_n2 (by omega) es71.2.2.2.2.2.2.2.2.2.2.2.2.2.1, rfl⟩ (fun s75 Is75 Fs75 (es75 : s75 98 15 = t0 98 15 ∧ s75 98 16 = t0 98 16 ∧ s75 98 17 = t0 98 17 ∧ s75 98 18 = t0 98 18 ∧ s75 98 13 = t0 98 13 ∧ s75 98 14 = t0 98 14 ∧ s75 98 5 = t0 98 5 ∧ s75 98 6 = t0 98 6 ∧ s75 98 7 = t0 98 7 ∧ s75 98 8 = H68 ∧ s75 98 9 = H70 ∧ s75 101 18 = t0 101 18 ∧ s75 101 25 = t0 101 25 ∧ s75 101 43 = t0 101 43 ∧ s75 = h_up s71 101 (35 + (t0 101 43)) (t0 98 18)) => ?_))
              clear hz73 hz74
              refine h_aload_n (pc' := 150) rfl rfl rfl ?_
              refine h_getR (pc' := 153) rfl rfl rfl rfl rfl ?_
              refine h_bipush (pc' := 155) (x := (Int32.ofInt 43)) rfl rfl cb_43 ?_
              refine h_dup2 (pc' := 156) rfl rfl rfl ?_
              refine h_iald (pc' := 157) (v := t0 101 43) rfl rfl rfl ci_43 (by omega) (by omega) es75.2.2.2.2.2.2.2.2.2.2.2.2.2.1 (fun z76 hz76 => ?_)
              refine h_iconst (pc' := 158) (x := (Int32.ofInt 1)) rfl rfl rfl ?_
              refine h_iadd (pc' := 159) rfl rfl hz76 ci_1 rfl (by omega) (by omega) (fun z77 hz77 => ?_)
              clear hz76
              refine h_iast (pc' := 160) rfl rfl rfl rfl ci_43 (by omega) (by omega) hz77 (h_fgt (E := fun s => s 98 15 = t0 98 15 ∧ s 98 16 = t0 98 16 ∧ s 98 17 = t0 98 17 ∧ s 98 18 = t0 98 18 ∧ s 98 13 = t0 98 13 ∧ s 98 14 = t0 98 14 ∧ s 98 5 = t0 98 5 ∧ s 98 6 = t0 98 6 ∧ s 98 7 = t0 98 7 ∧ s 98 8 = H68 ∧ s 98 9 = H70 ∧ s 101 18 = t0 101 18 ∧ s 101 25 = t0 101 25 ∧ s 101 43 = ((t0 101 43) + 1) ∧ s = h_up s75 101 43 ((t0 101 43) + 1)) _ (ip_101_10 Is75 (by omega) (by omega)) (Fs75.up rfl) ⟨es75.1, es75.2.1, es75.2.2.1, es75.2.2.2.1, es75.2.2.2.2.1, es75.2.2.2.2.2.1, es75.2.2.2.2.2.2.1, es75.2.2.2.2.2.2.2.1, es75.2.2.2.2.2.2.2.2.1, es75.2.2.2.2.2.2.2.2.2.1, es75.2.2.2.2.2.2.2.2.2.2.1, es75.2.2.2.2.2.2.2.2.2.2.2.1, es75.2.2.2.2.2.2.2.2.2.2.2.2.1, rfl, rfl⟩ (fun s78 Is78 Fs78 (es78 : s78 98 15 = t0 98 15 ∧ s78 98 16 = t0 98 16 ∧ s78 98 17 = t0 98 17 ∧ s78 98 18 = t0 98 18 ∧ s78 98 13 = t0 98 13 ∧ s78 98 14 = t0 98 14 ∧ s78 98 5 = t0 98 5 ∧ s78 98 6 = t0 98 6 ∧ s78 98 7 = t0 98 7 ∧ s78 98 8 = H68 ∧ s78 98 9 = H70 ∧ s78 101 18 = t0 101 18 ∧ s78 101 25 = t0 101 25 ∧ s78 101 43 = ((t0 101 43) + 1) ∧ s78 = h_up s75 101 43 ((t0 101 43) + 1)) => ?_))
              refine h_aload_n (pc' := 161) rfl rfl rfl ?_
              exfalso
              omega
            · clear hz66
              refine h_aload_n (pc' := 59) rfl rfl rfl ?_
              refine h_iconst (pc' := 60) (x := (Int32.ofInt 3)) rfl rfl rfl ?_
              refine h_call (sp := false) (pc' := 63) (M := [(0, .ref 98), (1, .int (Int32.ofInt 3))]) rfl rfl rfl rfl rfl rfl rfl rfl ?_
              refine h_aload_n (pc' := 1) rfl rfl rfl ?_
              refine h_getI (pc' := 4) (v := t0 98 13) rfl rfl rfl rfl rfl rfl (fun z79 hz79 => ?_)
              refine h_zne (tg := 20) (pc' := 7) rfl rfl rfl hz79 (fun c80 => absurd c80 (by omega)) (fun c80 => ?_)
              clear hz79
              refine h_aload_n (pc' := 8) rfl rfl rfl ?_
              refine h_iload_n (pc' := 9) rfl rfl rfl ?_
              refine h_put (pc' := 12) rfl rfl rfl rfl rfl rfl ci_3 rfl (h_fgt (E := fun s => s 98 15 = t0 98 15 ∧ s 98 16 = t0 98 16 ∧ s 98 17 = t0 98 17 ∧ s 98 18 = t0 98 18 ∧ s 98 13 = 3 ∧ s 98 14 = t0 98 14 ∧ s 98 5 = t0 98 5 ∧ s 98 6 = t0 98 6 ∧ s 98 7 = t0 98 7 ∧ s 98 8 = t0 98 8 ∧ s 98 9 = t0 98 9 ∧ s 101 18 = t0 101 18 ∧ s 101 25 = t0 101 25 ∧ s 101 43 = t0 101 43 ∧ s = h_up t0 98 13 3) _ (if_98_13 J0 (by omega)) (H0_.up rfl) ⟨rfl, rfl, rfl, rfl, rfl, rfl, rfl, rfl, rfl, rfl, rfl, rfl, rfl, rfl, rfl⟩ (fun s81 Is81 Fs81 (es81 : s81 98 15 = t0 98 15 ∧ s81 98 16 = t0 98 16 ∧ s81 98 17 = t0 98 17 ∧ s81 98 18 = t0 98 18 ∧ s81 98 13 = 3 ∧ s81 98 14 = t0 98 14 ∧ s81 98 5 = t0 98 5 ∧ s81 98 6 = t0 98 6 ∧ s81 98 7 = t0 98 7 ∧ s81 98 8 = t0 98 8 ∧ s81 98 9 = t0 98 9 ∧ s81 101 18 = t0 101 18 ∧ s81 101 25 = t0 101 25 ∧ s81 101 43 = t0 101 43 ∧ s81 = h_up t0 98 13 3) => ?_))
              refine h_aload_n (pc' := 13) rfl rfl rfl ?_
              refine h_aload_n (pc' := 14) rfl rfl rfl ?_
              refine h_getI (pc' := 17) (v := t0 98 16) rfl rfl rfl rfl rfl es81.2.1 (fun z82 hz82 => ?_)
              have tz82 := tf_98_16 J0
              refine h_put (pc' := 20) rfl rfl rfl rfl rfl rfl hz82 rfl (h_fgt (E := fun s => s 98 15 = t0 98 15 ∧ s 98 16 = t0 98 16 ∧ s 98 17 = t0 98 17 ∧ s 98 18 = t0 98 18 ∧ s 98 13 = 3 ∧ s 98 14 = (t0 98 16) ∧ s 98 5 = t0 98 5 ∧ s 98 6 = t0 98 6 ∧ s 98 7 = t0 98 7 ∧ s 98 8 = t0 98 8 ∧ s 98 9 = t0 98 9 ∧ s 101 18 = t0 101 18 ∧ s 101 25 = t0 101 25 ∧ s 101 43 = t0 101 43 ∧ s = h_up s81 98 14 (t0 98 16)) _ (if_98_14 Is81 (h_rgv hz82)) (Fs81.up rfl) ⟨es81.1, es81.2.1, es81.2.2.1, es81.2.2.2.1, es81.2.2.2.2.1, rfl, es81.2.2.2.2.2.2.1, es81.2.2.2.2.2.2.2.1, es81.2.2.2.2.2.2.2.2.1, es81.2.2.2.2.2.2.2.2.2.1, es81.2.2.2.2.2.2.2.2.2.2.1, es81.2.2.2.2.2.2.2.2.2.2.2.1, es81.2.2.2.2.2.2.2.2.2.2.2.2.1, es81.2.2.2.2.2.2.2.2.2.2.2.2.2.1, rfl⟩ (fun s83 Is83 Fs83 (es83 : s83 98 15 = t0 98 15 ∧ s83 98 16 = t0 98 16 ∧ s83 98 17 = t0 98 17 ∧ s83 98 18 = t0 98 18 ∧ s83 98 13 = 3 ∧ s83 98 14 = (t0 98 16) ∧ s83 98 5 = t0 98 5 ∧ s83 98 6 = t0 98 6 ∧ s83 98 7 = t0 98 7 ∧ s83 98 8 = t0 98 8 ∧ s83 98 9 = t0 98 9 ∧ s83 101 18 = t0 101 18 ∧ s83 101 25 = t0 101 25 ∧ s83 101 43 = t0 101 43 ∧ s83 = h_up s81 98 14 (t0 98 16)) => ?_))
              refine h_vret rfl rfl (h_Kn ?_)
              refine h_goto (pc' := 0) rfl rfl ?_
              exfalso
              omega
        · clear hz55
          refine h_aload_n (pc' := 28) rfl rfl rfl ?_
          refine h_iconst (pc' := 29) (x := (Int32.ofInt 5)) rfl rfl rfl ?_
          refine h_call (sp := false) (pc' := 32) (M := [(0, .ref 98), (1, .int (Int32.ofInt 5))]) rfl rfl rfl rfl rfl rfl rfl rfl ?_
          refine h_aload_n (pc' := 1) rfl rfl rfl ?_
          refine h_getI (pc' := 4) (v := t0 98 13) rfl rfl rfl rfl rfl rfl (fun z84 hz84 => ?_)
          refine h_zne (tg := 20) (pc' := 7) rfl rfl rfl hz84 (fun c85 => absurd c85 (by omega)) (fun c85 => ?_)
          clear hz84
          refine h_aload_n (pc' := 8) rfl rfl rfl ?_
          refine h_iload_n (pc' := 9) rfl rfl rfl ?_
          refine h_put (pc' := 12) rfl rfl rfl rfl rfl rfl ci_5 rfl (h_fgt (E := fun s => s 98 15 = t0 98 15 ∧ s 98 16 = t0 98 16 ∧ s 98 17 = t0 98 17 ∧ s 98 18 = t0 98 18 ∧ s 98 13 = 5 ∧ s 98 14 = t0 98 14 ∧ s 98 5 = t0 98 5 ∧ s 98 6 = t0 98 6 ∧ s 98 7 = t0 98 7 ∧ s 98 8 = t0 98 8 ∧ s 98 9 = t0 98 9 ∧ s 101 18 = t0 101 18 ∧ s 101 25 = t0 101 25 ∧ s 101 43 = t0 101 43 ∧ s = h_up t0 98 13 5) _ (if_98_13 J0 (by omega)) (H0_.up rfl) ⟨rfl, rfl, rfl, rfl, rfl, rfl, rfl, rfl, rfl, rfl, rfl, rfl, rfl, rfl, rfl⟩ (fun s86 Is86 Fs86 (es86 : s86 98 15 = t0 98 15 ∧ s86 98 16 = t0 98 16 ∧ s86 98 17 = t0 98 17 ∧ s86 98 18 = t0 98 18 ∧ s86 98 13 = 5 ∧ s86 98 14 = t0 98 14 ∧ s86 98 5 = t0 98 5 ∧ s86 98 6 = t0 98 6 ∧ s86 98 7 = t0 98 7 ∧ s86 98 8 = t0 98 8 ∧ s86 98 9 = t0 98 9 ∧ s86 101 18 = t0 101 18 ∧ s86 101 25 = t0 101 25 ∧ s86 101 43 = t0 101 43 ∧ s86 = h_up t0 98 13 5) => ?_))
          refine h_aload_n (pc' := 13) rfl rfl rfl ?_
          refine h_aload_n (pc' := 14) rfl rfl rfl ?_
          refine h_getI (pc' := 17) (v := t0 98 16) rfl rfl rfl rfl rfl es86.2.1 (fun z87 hz87 => ?_)
          have tz87 := tf_98_16 J0
          refine h_put (pc' := 20) rfl rfl rfl rfl rfl rfl hz87 rfl (h_fgt (E := fun s => s 98 15 = t0 98 15 ∧ s 98 16 = t0 98 16 ∧ s 98 17 = t0 98 17 ∧ s 98 18 = t0 98 18 ∧ s 98 13 = 5 ∧ s 98 14 = (t0 98 16) ∧ s 98 5 = t0 98 5 ∧ s 98 6 = t0 98 6 ∧ s 98 7 = t0 98 7 ∧ s 98 8 = t0 98 8 ∧ s 98 9 = t0 98 9 ∧ s 101 18 = t0 101 18 ∧ s 101 25 = t0 101 25 ∧ s 101 43 = t0 101 43 ∧ s = h_up s86 98 14 (t0 98 16)) _ (if_98_14 Is86 (h_rgv hz87)) (Fs86.up rfl) ⟨es86.1, es86.2.1, es86.2.2.1, es86.2.2.2.1, es86.2.2.2.2.1, rfl, es86.2.2.2.2.2.2.1, es86.2.2.2.2.2.2.2.1, es86.2.2.2.2.2.2.2.2.1, es86.2.2.2.2.2.2.2.2.2.1, es86.2.2.2.2.2.2.2.2.2.2.1, es86.2.2.2.2.2.2.2.2.2.2.2.1, es86.2.2.2.2.2.2.2.2.2.2.2.2.1, es86.2.2.2.2.2.2.2.2.2.2.2.2.2.1, rfl⟩ (fun s88 Is88 Fs88 (es88 : s88 98 15 = t0 98 15 ∧ s88 98 16 = t0 98 16 ∧ s88 98 17 = t0 98 17 ∧ s88 98 18 = t0 98 18 ∧ s88 98 13 = 5 ∧ s88 98 14 = (t0 98 16) ∧ s88 98 5 = t0 98 5 ∧ s88 98 6 = t0 98 6 ∧ s88 98 7 = t0 98 7 ∧ s88 98 8 = t0 98 8 ∧ s88 98 9 = t0 98 9 ∧ s88 101 18 = t0 101 18 ∧ s88 101 25 = t0 101 25 ∧ s88 101 43 = t0 101 43 ∧ s88 = h_up s86 98 14 (t0 98 16)) => ?_))
          refine h_vret rfl rfl (h_Kn ?_)
          refine h_goto (pc' := 0) rfl rfl ?_
          exfalso
          omega
      · refine h_aload_n (pc' := 37) rfl rfl rfl ?_
        refine h_call (sp := false) (pc' := 40) (M := [(0, .ref 63)]) rfl rfl rfl rfl rfl rfl rfl rfl ?_
        refine h_aload_n (pc' := 1) rfl rfl rfl ?_
        refine h_getI (pc' := 4) (v := s0 63 2) rfl rfl rfl rfl rfl rfl (fun z89 hz89 => ?_)
        have tz89 := tf_63_2 I0
        refine h_zne (tg := 22) (pc' := 7) rfl rfl rfl hz89 (fun c90 => absurd c90 (by omega)) (fun c90 => ?_)
        clear hz89
        refine h_aload_n (pc' := 8) rfl rfl rfl ?_
        refine h_getR (pc' := 11) rfl rfl rfl rfl rfl ?_
        refine h_getI (pc' := 14) (v := s0 64 3) rfl rfl rfl rfl rfl rfl (fun z91 hz91 => ?_)
        have tz91 := tf_64_3 I0
        refine h_iconst (pc' := 15) (x := (Int32.ofInt 2)) rfl rfl rfl ?_
        refine h_cne (tg := 22) (pc' := 18) rfl rfl rfl hz91 ci_2 (fun c92 => absurd c92 (by omega)) (fun c92 => ?_)
        clear hz91
        refine h_iconst (pc' := 19) (x := (Int32.ofInt 1)) rfl rfl rfl ?_
        refine h_goto (pc' := 23) rfl rfl ?_
        refine h_zret rfl rfl ci_1 (by omega) (h_Kv ?_)
        refine h_zeq (tg := 53) (pc' := 43) rfl rfl rfl ci_1 (fun c93 => absurd c93 (by omega)) (fun c93 => ?_)
        refine h_aload_n (pc' := 44) rfl rfl rfl ?_
        refine d_call (g_inj ns) (pc' := 47) (m := 63) (M := [(0, .ref 63)]) (rest := []) ⟨false, _, _, _, _, _, _, rfl, rfl, rfl, rfl, rfl, rfl, rfl⟩ (fun lv94 hlv94 => ?_)
        refine h_aload_n (pc' := 1) rfl rfl rfl ?_
        refine h_getR (pc' := 4) rfl rfl rfl rfl rfl ?_
        refine h_getI (pc' := 7) (v := s0 64 5) rfl rfl rfl rfl rfl rfl (fun z95 hz95 => ?_)
        have tz95 := tf_64_5 I0
        refine h_istore_n (pc' := 8) (M := [(1, .int z95), (0, .ref 63)]) rfl rfl rfl rfl ?_
        refine h_aload_n (pc' := 9) rfl rfl rfl ?_
        refine h_getR (pc' := 12) rfl rfl rfl rfl rfl ?_
        refine h_getI (pc' := 15) (v := s0 66 10) rfl rfl rfl rfl rfl rfl (fun z96 hz96 => ?_)
        have tz96 := tf_66_10 I0
        refine h_bipush (pc' := 17) (x := (Int32.ofInt 8)) rfl rfl cb_8 ?_
        refine h_clt (tg := 35) (pc' := 20) rfl rfl rfl hz96 ci_8 (fun c97 => ?_) (fun c97 => ?_)
        · clear hz96
          refine h_iload_n (pc' := 36) rfl rfl rfl ?_
          refine h_bipush (pc' := 38) (x := (Int32.ofInt 10)) rfl rfl cb_10 ?_
          refine h_idiv (pc' := 39) rfl rfl hz95 ci_10 (by omega) (by omega) (fun z98 hz98 => ?_)
          refine h_bipush (pc' := 41) (x := (Int32.ofInt 6)) rfl rfl cb_6 ?_
          refine h_cge (tg := 52) (pc' := 44) rfl rfl rfl hz98 ci_6 (fun c99 => ?_) (fun c99 => ?_)
          · clear hz98
            refine h_aload_n (pc' := 53) rfl rfl rfl ?_
            refine h_iconst (pc' := 54) (x := (Int32.ofInt 3)) rfl rfl rfl ?_
            refine h_aload_n (pc' := 55) rfl rfl rfl ?_
            refine h_getR (pc' := 58) rfl rfl rfl rfl rfl ?_
            refine h_getI (pc' := 61) (v := s0 64 4) rfl rfl rfl rfl rfl rfl (fun z100 hz100 => ?_)
            have tz100 := tf_64_4 I0
            refine h_call (sp := false) (pc' := 64) (M := [(0, .ref 63), (1, .int (Int32.ofInt 3)), (2, .int z100)]) rfl rfl rfl rfl rfl rfl rfl rfl ?_
            refine h_aload_n (pc' := 1) rfl rfl rfl ?_
            refine h_getI (pc' := 4) (v := s0 63 2) rfl rfl rfl rfl rfl rfl (fun z101 hz101 => ?_)
            refine h_zne (tg := 17) (pc' := 7) rfl rfl rfl hz101 (fun c102 => absurd c102 (by omega)) (fun c102 => ?_)
            clear hz101
            refine h_aload_n (pc' := 8) rfl rfl rfl ?_
            refine h_iload_n (pc' := 9) rfl rfl rfl ?_
            refine h_put (pc' := 12) rfl rfl rfl rfl rfl rfl ci_3 rfl (h_fgt (E := fun s => s 64 2 = s0 64 2 ∧ s 64 4 = s0 64 4 ∧ s 64 3 = s0 64 3 ∧ s 64 5 = s0 64 5 ∧ s 63 2 = 3 ∧ s 63 3 = s0 63 3 ∧ s 64 1 = s0 64 1 ∧ s 66 8 = s0 66 8 ∧ s 66 9 = s0 66 9 ∧ s 66 10 = s0 66 10 ∧ s 69 2 = s0 69 2 ∧ s 72 2 = s0 72 2 ∧ s 63 5 = s0 63 5 ∧ s = h_up s0 63 2 3) _ (if_63_2 I0 (by omega)) (F0_.up rfl) ⟨rfl, rfl, rfl, rfl, rfl, rfl, rfl, rfl, rfl, rfl, rfl, rfl, rfl, rfl⟩ (fun s103 Is103 Fs103 (es103 : s103 64 2 = s0 64 2 ∧ s103 64 4 = s0 64 4 ∧ s103 64 3 = s0 64 3 ∧ s103 64 5 = s0 64 5 ∧ s103 63 2 = 3 ∧ s103 63 3 = s0 63 3 ∧ s103 64 1 = s0 64 1 ∧ s103 66 8 = s0 66 8 ∧ s103 66 9 = s0 66 9 ∧ s103 66 10 = s0 66 10 ∧ s103 69 2 = s0 69 2 ∧ s103 72 2 = s0 72 2 ∧ s103 63 5 = s0 63 5 ∧ s103 = h_up s0 63 2 3) => ?_))
            refine h_aload_n (pc' := 13) rfl rfl rfl ?_
            refine h_iload_n (pc' := 14) rfl rfl rfl ?_
            refine h_put (pc' := 17) rfl rfl rfl rfl rfl rfl hz100 rfl (h_fgt (E := fun s => s 64 2 = s0 64 2 ∧ s 64 4 = s0 64 4 ∧ s 64 3 = s0 64 3 ∧ s 64 5 = s0 64 5 ∧ s 63 2 = 3 ∧ s 63 3 = (s0 64 4) ∧ s 64 1 = s0 64 1 ∧ s 66 8 = s0 66 8 ∧ s 66 9 = s0 66 9 ∧ s 66 10 = s0 66 10 ∧ s 69 2 = s0 69 2 ∧ s 72 2 = s0 72 2 ∧ s 63 5 = s0 63 5 ∧ s = h_up s103 63 3 (s0 64 4)) _ (if_63_3 Is103 (h_rgv hz100)) (Fs103.up rfl) ⟨es103.1, es103.2.1, es103.2.2.1, es103.2.2.2.1, es103.2.2.2.2.1, rfl, es103.2.2.2.2.2.2.1, es103.2.2.2.2.2.2.2.1, es103.2.2.2.2.2.2.2.2.1, es103.2.2.2.2.2.2.2.2.2.1, es103.2.2.2.2.2.2.2.2.2.2.1, es103.2.2.2.2.2.2.2.2.2.2.2.1, es103.2.2.2.2.2.2.2.2.2.2.2.2.1, rfl⟩ (fun s104 Is104 Fs104 (es104 : s104 64 2 = s0 64 2 ∧ s104 64 4 = s0 64 4 ∧ s104 64 3 = s0 64 3 ∧ s104 64 5 = s0 64 5 ∧ s104 63 2 = 3 ∧ s104 63 3 = (s0 64 4) ∧ s104 64 1 = s0 64 1 ∧ s104 66 8 = s0 66 8 ∧ s104 66 9 = s0 66 9 ∧ s104 66 10 = s0 66 10 ∧ s104 69 2 = s0 69 2 ∧ s104 72 2 = s0 72 2 ∧ s104 63 5 = s0 63 5 ∧ s104 = h_up s103 63 3 (s0 64 4)) => ?_))
            refine h_vret rfl rfl (h_Kn ?_)
            refine h_goto (pc' := 79) rfl rfl ?_
            refine h_vret rfl rfl (d_retn hlv94 ?_)
            clear hz95
            refine h_iinc (pc' := 50) (M := fun z105 => [(1, .int z105), (0, .ref 63)]) rfl rfl rfl rfl hx1 ci_1 rfl (by omega) (by omega) (fun _ => rfl) (fun z105 hz105 => ?_)
            refine h_goto (pc' := 30) rfl rfl ?_
            refine d_toM (g_inj ns) hl2 hR2 (fun lvw106 memw106 hlw106 hRw106 => ?_)
            show h_T g_P (g_Y ns) 152 0 [(0, .ref 98)] [] t0 _
            refine h_aload_n (pc' := 1) rfl rfl rfl ?_
            refine h_getI (pc' := 4) (v := t0 98 13) rfl rfl rfl rfl rfl rfl (fun z107 hz107 => ?_)
            have tz107 := tf_98_13 J0
            refine h_zne (tg := 167) (pc' := 7) rfl rfl rfl hz107 (fun c108 => absurd c108 (by omega)) (fun c108 => ?_)
            clear hz107
            refine h_aload_n (pc' := 8) rfl rfl rfl ?_
            refine h_getI (pc' := 11) (v := t0 98 17) rfl rfl rfl rfl rfl rfl (fun z109 hz109 => ?_)
            have tz109 := tf_98_17 J0
            refine h_iconst (pc' := 12) (x := (Int32.ofInt 2)) rfl rfl rfl ?_
            refine h_cne (tg := 167) (pc' := 15) rfl rfl rfl hz109 ci_2 (fun c110 => absurd c110 (by omega)) (fun c110 => ?_)
            clear hz109
            refine h_aload_n (pc' := 16) rfl rfl rfl ?_
            refine h_getR (pc' := 19) rfl rfl rfl rfl rfl ?_
            refine h_bipush (pc' := 21) (x := (Int32.ofInt 43)) rfl rfl cb_43 ?_
            refine h_iald (pc' := 22) (v := t0 101 43) rfl rfl rfl ci_43 (by omega) (by omega) rfl (fun z111 hz111 => ?_)
            have tz111 := ty_101_10 J0 43 (by omega)
            refine h_bipush (pc' := 24) (x := (Int32.ofInt 8)) rfl rfl cb_8 ?_
            refine h_cne (tg := 35) (pc' := 27) rfl rfl rfl hz111 ci_8 (fun c112 => ?_) (fun c112 => ?_)
            · clear hz111
              refine h_aload_n (pc' := 36) rfl rfl rfl ?_
              refine h_getI (pc' := 39) (v := t0 98 18) rfl rfl rfl rfl rfl rfl (fun z113 hz113 => ?_)
              have tz113 := tf_98_18 J0
              refine h_bipush (pc' := 41) (x := (Int32.ofInt 10)) rfl rfl cb_10 ?_
              refine h_idiv (pc' := 42) rfl rfl hz113 ci_10 (by omega) (by omega) (fun z114 hz114 => ?_)
              clear hz113
              refine h_bipush (pc' := 44) (x := (Int32.ofInt 6)) rfl rfl cb_6 ?_
              refine h_cge (tg := 58) (pc' := 47) rfl rfl rfl hz114 ci_6 (fun c115 => ?_) (fun c115 => ?_)
              · clear hz114
                refine h_aload_n (pc' := 59) rfl rfl rfl ?_
                refine h_iconst (pc' := 60) (x := (Int32.ofInt 3)) rfl rfl rfl ?_
                refine h_call (sp := false) (pc' := 63) (M := [(0, .ref 98), (1, .int (Int32.ofInt 3))]) rfl rfl rfl rfl rfl rfl rfl rfl ?_
                refine h_aload_n (pc' := 1) rfl rfl rfl ?_
                refine h_getI (pc' := 4) (v := t0 98 13) rfl rfl rfl rfl rfl rfl (fun z116 hz116 => ?_)
                refine h_zne (tg := 20) (pc' := 7) rfl rfl rfl hz116 (fun c117 => absurd c117 (by omega)) (fun c117 => ?_)
                clear hz116
                refine h_aload_n (pc' := 8) rfl rfl rfl ?_
                refine h_iload_n (pc' := 9) rfl rfl rfl ?_
                refine h_put (pc' := 12) rfl rfl rfl rfl rfl rfl ci_3 rfl (h_fgt (E := fun s => s 98 15 = t0 98 15 ∧ s 98 16 = t0 98 16 ∧ s 98 17 = t0 98 17 ∧ s 98 18 = t0 98 18 ∧ s 98 13 = 3 ∧ s 98 14 = t0 98 14 ∧ s 98 5 = t0 98 5 ∧ s 98 6 = t0 98 6 ∧ s 98 7 = t0 98 7 ∧ s 98 8 = t0 98 8 ∧ s 98 9 = t0 98 9 ∧ s 101 18 = t0 101 18 ∧ s 101 25 = t0 101 25 ∧ s 101 43 = t0 101 43 ∧ s = h_up t0 98 13 3) _ (if_98_13 J0 (by omega)) (H0_.up rfl) ⟨rfl, rfl, rfl, rfl, rfl, rfl, rfl, rfl, rfl, rfl, rfl, rfl, rfl, rfl, rfl⟩ (fun s118 Is118 Fs118 (es118 : s118 98 15 = t0 98 15 ∧ s118 98 16 = t0 98 16 ∧ s118 98 17 = t0 98 17 ∧ s118 98 18 = t0 98 18 ∧ s118 98 13 = 3 ∧ s118 98 14 = t0 98 14 ∧ s118 98 5 = t0 98 5 ∧ s118 98 6 = t0 98 6 ∧ s118 98 7 = t0 98 7 ∧ s118 98 8 = t0 98 8 ∧ s118 98 9 = t0 98 9 ∧ s118 101 18 = t0 101 18 ∧ s118 101 25 = t0 101 25 ∧ s118 101 43 = t0 101 43 ∧ s118 = h_up t0 98 13 3) => ?_))
                refine h_aload_n (pc' := 13) rfl rfl rfl ?_
                refine h_aload_n (pc' := 14) rfl rfl rfl ?_
                refine h_getI (pc' := 17) (v := t0 98 16) rfl rfl rfl rfl rfl es118.2.1 (fun z119 hz119 => ?_)
                have tz119 := tf_98_16 J0
                refine h_put (pc' := 20) rfl rfl rfl rfl rfl rfl hz119 rfl (h_fgt (E := fun s => s 98 15 = t0 98 15 ∧ s 98 16 = t0 98 16 ∧ s 98 17 = t0 98 17 ∧ s 98 18 = t0 98 18 ∧ s 98 13 = 3 ∧ s 98 14 = (t0 98 16) ∧ s 98 5 = t0 98 5 ∧ s 98 6 = t0 98 6 ∧ s 98 7 = t0 98 7 ∧ s 98 8 = t0 98 8 ∧ s 98 9 = t0 98 9 ∧ s 101 18 = t0 101 18 ∧ s 101 25 = t0 101 25 ∧ s 101 43 = t0 101 43 ∧ s = h_up s118 98 14 (t0 98 16)) _ (if_98_14 Is118 (h_rgv hz119)) (Fs118.up rfl) ⟨es118.1, es118.2.1, es118.2.2.1, es118.2.2.2.1, es118.2.2.2.2.1, rfl, es118.2.2.2.2.2.2.1, es118.2.2.2.2.2.2.2.1, es118.2.2.2.2.2.2.2.2.1, es118.2.2.2.2.2.2.2.2.2.1, es118.2.2.2.2.2.2.2.2.2.2.1, es118.2.2.2.2.2.2.2.2.2.2.2.1, es118.2.2.2.2.2.2.2.2.2.2.2.2.1, es118.2.2.2.2.2.2.2.2.2.2.2.2.2.1, rfl⟩ (fun s120 Is120 Fs120 (es120 : s120 98 15 = t0 98 15 ∧ s120 98 16 = t0 98 16 ∧ s120 98 17 = t0 98 17 ∧ s120 98 18 = t0 98 18 ∧ s120 98 13 = 3 ∧ s120 98 14 = (t0 98 16) ∧ s120 98 5 = t0 98 5 ∧ s120 98 6 = t0 98 6 ∧ s120 98 7 = t0 98 7 ∧ s120 98 8 = t0 98 8 ∧ s120 98 9 = t0 98 9 ∧ s120 101 18 = t0 101 18 ∧ s120 101 25 = t0 101 25 ∧ s120 101 43 = t0 101 43 ∧ s120 = h_up s118 98 14 (t0 98 16)) => ?_))
                refine h_vret rfl rfl (h_Kn ?_)
                refine h_goto (pc' := 0) rfl rfl ?_
                refine d_toL (g_inj ns) hlw106 hRw106 (fun lvw121 memw121 hlw121 hRw121 => ?_)
                show h_T g_P (g_Y ns) 62 30 [(1, .int z105), (0, .ref 63)] [] s104 _
                exact h_wk [(0, .ref 63), (1, .int z105)] ⟨rfl, rfl, trivial⟩ (ih _ _ Is104 Is120 Fs104 Fs120 z105 _ hz105  (by omega) (by omega) (by omega) (by omega) (by omega) (by omega) (by omega) (by omega) (by omega) (fun h => absurd h (by omega)) (Or.inl ⟨by omega, by omega, by omega, by omega⟩) (by omega) _ _ (h_al_ok ⟨rfl, trivial⟩ hlw121) hRw121)
              · clear hz114
                refine h_aload_n (pc' := 48) rfl rfl rfl ?_
                refine h_getI (pc' := 51) (v := t0 98 18) rfl rfl rfl rfl rfl rfl (fun z122 hz122 => ?_)
                refine h_bipush (pc' := 53) (x := (Int32.ofInt 10)) rfl rfl cb_10 ?_
                refine h_irem (pc' := 54) rfl rfl hz122 ci_10 (by omega) (by omega) (fun z123 hz123 => ?_)
                clear hz122
                refine h_iconst (pc' := 55) (x := (Int32.ofInt 3)) rfl rfl rfl ?_
                refine h_clt (tg := 66) (pc' := 58) rfl rfl rfl hz123 ci_3 (fun c124 => ?_) (fun c124 => ?_)
                · clear hz123
                  have gH125 : 0 ≤ t0 98 18 ∧ t0 98 18 ≤ 99 := by have ga := tf_98_18 J0; omega
                  have oH125 : t0 98 8 = t0 98 8 := rfl
                  have vH125 : t0 98 18 = t0 98 18 := rfl
                  have uH125 := tf_98_8 J0
                  refine lm_ho _ J0 (by omega) (fun H125 hH125 => (h_fgt (E := fun s => s 98 15 = t0 98 15 ∧ s 98 16 = t0 98 16 ∧ s 98 17 = t0 98 17 ∧ s 98 18 = t0 98 18 ∧ s 98 13 = t0 98 13 ∧ s 98 14 = t0 98 14 ∧ s 98 5 = t0 98 5 ∧ s 98 6 = t0 98 6 ∧ s 98 7 = t0 98 7 ∧ s 98 8 = H125 ∧ s 98 9 = t0 98 9 ∧ s 101 18 = t0 101 18 ∧ s 101 25 = t0 101 25 ∧ s 101 43 = t0 101 43 ∧ s = h_up t0 98 8 H125) _ (if_98_8 J0 (by omega)) (H0_.up rfl) ⟨rfl, rfl, rfl, rfl, rfl, rfl, rfl, rfl, rfl, rfl, rfl, rfl, rfl, rfl, rfl⟩ (fun s126 Is126 Fs126 (es126 : s126 98 15 = t0 98 15 ∧ s126 98 16 = t0 98 16 ∧ s126 98 17 = t0 98 17 ∧ s126 98 18 = t0 98 18 ∧ s126 98 13 = t0 98 13 ∧ s126 98 14 = t0 98 14 ∧ s126 98 5 = t0 98 5 ∧ s126 98 6 = t0 98 6 ∧ s126 98 7 = t0 98 7 ∧ s126 98 8 = H125 ∧ s126 98 9 = t0 98 9 ∧ s126 101 18 = t0 101 18 ∧ s126 101 25 = t0 101 25 ∧ s126 101 43 = t0 101 43 ∧ s126 = h_up t0 98 8 H125) => ?_)))
                  have gH127 : 0 ≤ s126 98 18 ∧ s126 98 18 ≤ 99 := by have ga := es126.2.2.2.1; omega
                  have oH127 : s126 98 9 = t0 98 9 := es126.2.2.2.2.2.2.2.2.2.2.1
                  have vH127 : s126 98 18 = t0 98 18 := es126.2.2.2.1
                  have uH127 := tf_98_9 Is126
                  refine lm_hg _ Is126 (by omega) (fun H127 hH127 => (h_fgt (E := fun s => s 98 15 = t0 98 15 ∧ s 98 16 = t0 98 16 ∧ s 98 17 = t0 98 17 ∧ s 98 18 = t0 98 18 ∧ s 98 13 = t0 98 13 ∧ s 98 14 = t0 98 14 ∧ s 98 5 = t0 98 5 ∧ s 98 6 = t0 98 6 ∧ s 98 7 = t0 98 7 ∧ s 98 8 = H125 ∧ s 98 9 = H127 ∧ s 101 18 = t0 101 18 ∧ s 101 25 = t0 101 25 ∧ s 101 43 = t0 101 43 ∧ s = h_up s126 98 9 H127) _ (if_98_9 Is126 (by omega)) (Fs126.up rfl) ⟨es126.1, es126.2.1, es126.2.2.1, es126.2.2.2.1, es126.2.2.2.2.1, es126.2.2.2.2.2.1, es126.2.2.2.2.2.2.1, es126.2.2.2.2.2.2.2.1, es126.2.2.2.2.2.2.2.2.1, es126.2.2.2.2.2.2.2.2.2.1, rfl, es126.2.2.2.2.2.2.2.2.2.2.2.1, es126.2.2.2.2.2.2.2.2.2.2.2.2.1, es126.2.2.2.2.2.2.2.2.2.2.2.2.2.1, rfl⟩ (fun s128 Is128 Fs128 (es128 : s128 98 15 = t0 98 15 ∧ s128 98 16 = t0 98 16 ∧ s128 98 17 = t0 98 17 ∧ s128 98 18 = t0 98 18 ∧ s128 98 13 = t0 98 13 ∧ s128 98 14 = t0 98 14 ∧ s128 98 5 = t0 98 5 ∧ s128 98 6 = t0 98 6 ∧ s128 98 7 = t0 98 7 ∧ s128 98 8 = H125 ∧ s128 98 9 = H127 ∧ s128 101 18 = t0 101 18 ∧ s128 101 25 = t0 101 25 ∧ s128 101 43 = t0 101 43 ∧ s128 = h_up s126 98 9 H127) => ?_)))
                  refine h_aload_n (pc' := 131) rfl rfl rfl ?_
                  refine h_getR (pc' := 134) rfl rfl rfl rfl rfl ?_
                  refine h_bipush (pc' := 136) (x := (Int32.ofInt 35)) rfl rfl cb_35 ?_
                  refine h_aload_n (pc' := 137) rfl rfl rfl ?_
                  refine h_getR (pc' := 140) rfl rfl rfl rfl rfl ?_
                  refine h_bipush (pc' := 142) (x := (Int32.ofInt 43)) rfl rfl cb_43 ?_
                  refine h_iald (pc' := 143) (v := t0 101 43) rfl rfl rfl ci_43 (by omega) (by omega) es128.2.2.2.2.2.2.2.2.2.2.2.2.2.1 (fun z129 hz129 => ?_)
                  refine h_iadd (pc' := 144) rfl rfl ci_35 hz129 rfl (by omega) (by omega) (fun z130 hz130 => ?_)
                  clear hz129
                  refine h_aload_n (pc' := 145) rfl rfl rfl ?_
                  refine h_getI (pc' := 148) (v := t0 98 18) rfl rfl rfl rfl rfl es128.2.2.2.1 (fun z131 hz131 => ?_)
                  refine h_iast (pc' := 149) rfl rfl rfl rfl hz130 (by omega) (by omega) hz131 (h_fgt (E := fun s => s 98 15 = t0 98 15 ∧ s 98 16 = t0 98 16 ∧ s 98 17 = t0 98 17 ∧ s 98 18 = t0 98 18 ∧ s 98 13 = t0 98 13 ∧ s 98 14 = t0 98 14 ∧ s 98 5 = t0 98 5 ∧ s 98 6 = t0 98 6 ∧ s 98 7 = t0 98 7 ∧ s 98 8 = H125 ∧ s 98 9 = H127 ∧ s 101 18 = t0 101 18 ∧ s 101 25 = t0 101 25 ∧ s 101 43 = t0 101 43 ∧ s = h_up s128 101 (35 + (t0 101 43)) (t0 98 18)) _ (ip_101_9 Is128 (by omega) (by omega)) (Fs128.up rfl) ⟨es128.1, es128.2.1, es128.2.2.1, es128.2.2.2.1, es128.2.2.2.2.1, es128.2.2.2.2.2.1, es128.2.2.2.2.2.2.1, es128.2.2.2.2.2.2.2.1, es128.2.2.2.2.2.2.2.2.1, es128.2.2.2.2.2.2.2.2.2.1, es128.2.2.2.2.2.2.2.2.2.2.1, h_up_n2 (by omega) es128.2.2.2.2.2.2.2.2.2.2.2.1, h_up_n2 (by omega) es128.2.2.2.2.2.2.2.2.2.2.2.2.1, h_up_n2 (by omega) es128.2.2.2.2.2.2.2.2.2.2.2.2.2.1, rfl⟩ (fun s132 Is132 Fs132 (es132 : s132 98 15 = t0 98 15 ∧ s132 98 16 = t0 98 16 ∧ s132 98 17 = t0 98 17 ∧ s132 98 18 = t0 98 18 ∧ s132 98 13 = t0 98 13 ∧ s132 98 14 = t0 98 14 ∧ s132 98 5 = t0 98 5 ∧ s132 98 6 = t0 98 6 ∧ s132 98 7 = t0 98 7 ∧ s132 98 8 = H125 ∧ s132 98 9 = H127 ∧ s132 101 18 = t0 101 18 ∧ s132 101 25 = t0 101 25 ∧ s132 101 43 = t0 101 43 ∧ s132 = h_up s128 101 (35 + (t0 101 43)) (t0 98 18)) => ?_))
                  clear hz130 hz131
                  refine h_aload_n (pc' := 150) rfl rfl rfl ?_
                  refine h_getR (pc' := 153) rfl rfl rfl rfl rfl ?_
                  refine h_bipush (pc' := 155) (x := (Int32.ofInt 43)) rfl rfl cb_43 ?_
                  refine h_dup2 (pc' := 156) rfl rfl rfl ?_
                  refine h_iald (pc' := 157) (v := t0 101 43) rfl rfl rfl ci_43 (by omega) (by omega) es132.2.2.2.2.2.2.2.2.2.2.2.2.2.1 (fun z133 hz133 => ?_)
                  refine h_iconst (pc' := 158) (x := (Int32.ofInt 1)) rfl rfl rfl ?_
                  refine h_iadd (pc' := 159) rfl rfl hz133 ci_1 rfl (by omega) (by omega) (fun z134 hz134 => ?_)
                  clear hz133
                  refine h_iast (pc' := 160) rfl rfl rfl rfl ci_43 (by omega) (by omega) hz134 (h_fgt (E := fun s => s 98 15 = t0 98 15 ∧ s 98 16 = t0 98 16 ∧ s 98 17 = t0 98 17 ∧ s 98 18 = t0 98 18 ∧ s 98 13 = t0 98 13 ∧ s 98 14 = t0 98 14 ∧ s 98 5 = t0 98 5 ∧ s 98 6 = t0 98 6 ∧ s 98 7 = t0 98 7 ∧ s 98 8 = H125 ∧ s 98 9 = H127 ∧ s 101 18 = t0 101 18 ∧ s 101 25 = t0 101 25 ∧ s 101 43 = ((t0 101 43) + 1) ∧ s = h_up s132 101 43 ((t0 101 43) + 1)) _ (ip_101_10 Is132 (by omega) (by omega)) (Fs132.up rfl) ⟨es132.1, es132.2.1, es132.2.2.1, es132.2.2.2.1, es132.2.2.2.2.1, es132.2.2.2.2.2.1, es132.2.2.2.2.2.2.1, es132.2.2.2.2.2.2.2.1, es132.2.2.2.2.2.2.2.2.1, es132.2.2.2.2.2.2.2.2.2.1, es132.2.2.2.2.2.2.2.2.2.2.1, es132.2.2.2.2.2.2.2.2.2.2.2.1, es132.2.2.2.2.2.2.2.2.2.2.2.2.1, rfl, rfl⟩ (fun s135 Is135 Fs135 (es135 : s135 98 15 = t0 98 15 ∧ s135 98 16 = t0 98 16 ∧ s135 98 17 = t0 98 17 ∧ s135 98 18 = t0 98 18 ∧ s135 98 13 = t0 98 13 ∧ s135 98 14 = t0 98 14 ∧ s135 98 5 = t0 98 5 ∧ s135 98 6 = t0 98 6 ∧ s135 98 7 = t0 98 7 ∧ s135 98 8 = H125 ∧ s135 98 9 = H127 ∧ s135 101 18 = t0 101 18 ∧ s135 101 25 = t0 101 25 ∧ s135 101 43 = ((t0 101 43) + 1) ∧ s135 = h_up s132 101 43 ((t0 101 43) + 1)) => ?_))
                  refine h_aload_n (pc' := 161) rfl rfl rfl ?_
                  exfalso
                  omega
                · clear hz123
                  refine h_aload_n (pc' := 59) rfl rfl rfl ?_
                  refine h_iconst (pc' := 60) (x := (Int32.ofInt 3)) rfl rfl rfl ?_
                  refine h_call (sp := false) (pc' := 63) (M := [(0, .ref 98), (1, .int (Int32.ofInt 3))]) rfl rfl rfl rfl rfl rfl rfl rfl ?_
                  refine h_aload_n (pc' := 1) rfl rfl rfl ?_
                  refine h_getI (pc' := 4) (v := t0 98 13) rfl rfl rfl rfl rfl rfl (fun z136 hz136 => ?_)
                  refine h_zne (tg := 20) (pc' := 7) rfl rfl rfl hz136 (fun c137 => absurd c137 (by omega)) (fun c137 => ?_)
                  clear hz136
                  refine h_aload_n (pc' := 8) rfl rfl rfl ?_
                  refine h_iload_n (pc' := 9) rfl rfl rfl ?_
                  refine h_put (pc' := 12) rfl rfl rfl rfl rfl rfl ci_3 rfl (h_fgt (E := fun s => s 98 15 = t0 98 15 ∧ s 98 16 = t0 98 16 ∧ s 98 17 = t0 98 17 ∧ s 98 18 = t0 98 18 ∧ s 98 13 = 3 ∧ s 98 14 = t0 98 14 ∧ s 98 5 = t0 98 5 ∧ s 98 6 = t0 98 6 ∧ s 98 7 = t0 98 7 ∧ s 98 8 = t0 98 8 ∧ s 98 9 = t0 98 9 ∧ s 101 18 = t0 101 18 ∧ s 101 25 = t0 101 25 ∧ s 101 43 = t0 101 43 ∧ s = h_up t0 98 13 3) _ (if_98_13 J0 (by omega)) (H0_.up rfl) ⟨rfl, rfl, rfl, rfl, rfl, rfl, rfl, rfl, rfl, rfl, rfl, rfl, rfl, rfl, rfl⟩ (fun s138 Is138 Fs138 (es138 : s138 98 15 = t0 98 15 ∧ s138 98 16 = t0 98 16 ∧ s138 98 17 = t0 98 17 ∧ s138 98 18 = t0 98 18 ∧ s138 98 13 = 3 ∧ s138 98 14 = t0 98 14 ∧ s138 98 5 = t0 98 5 ∧ s138 98 6 = t0 98 6 ∧ s138 98 7 = t0 98 7 ∧ s138 98 8 = t0 98 8 ∧ s138 98 9 = t0 98 9 ∧ s138 101 18 = t0 101 18 ∧ s138 101 25 = t0 101 25 ∧ s138 101 43 = t0 101 43 ∧ s138 = h_up t0 98 13 3) => ?_))
                  refine h_aload_n (pc' := 13) rfl rfl rfl ?_
                  refine h_aload_n (pc' := 14) rfl rfl rfl ?_
                  refine h_getI (pc' := 17) (v := t0 98 16) rfl rfl rfl rfl rfl es138.2.1 (fun z139 hz139 => ?_)
                  have tz139 := tf_98_16 J0
                  refine h_put (pc' := 20) rfl rfl rfl rfl rfl rfl hz139 rfl (h_fgt (E := fun s => s 98 15 = t0 98 15 ∧ s 98 16 = t0 98 16 ∧ s 98 17 = t0 98 17 ∧ s 98 18 = t0 98 18 ∧ s 98 13 = 3 ∧ s 98 14 = (t0 98 16) ∧ s 98 5 = t0 98 5 ∧ s 98 6 = t0 98 6 ∧ s 98 7 = t0 98 7 ∧ s 98 8 = t0 98 8 ∧ s 98 9 = t0 98 9 ∧ s 101 18 = t0 101 18 ∧ s 101 25 = t0 101 25 ∧ s 101 43 = t0 101 43 ∧ s = h_up s138 98 14 (t0 98 16)) _ (if_98_14 Is138 (h_rgv hz139)) (Fs138.up rfl) ⟨es138.1, es138.2.1, es138.2.2.1, es138.2.2.2.1, es138.2.2.2.2.1, rfl, es138.2.2.2.2.2.2.1, es138.2.2.2.2.2.2.2.1, es138.2.2.2.2.2.2.2.2.1, es138.2.2.2.2.2.2.2.2.2.1, es138.2.2.2.2.2.2.2.2.2.2.1, es138.2.2.2.2.2.2.2.2.2.2.2.1, es138.2.2.2.2.2.2.2.2.2.2.2.2.1, es138.2.2.2.2.2.2.2.2.2.2.2.2.2.1, rfl⟩ (fun s140 Is140 Fs140 (es140 : s140 98 15 = t0 98 15 ∧ s140 98 16 = t0 98 16 ∧ s140 98 17 = t0 98 17 ∧ s140 98 18 = t0 98 18 ∧ s140 98 13 = 3 ∧ s140 98 14 = (t0 98 16) ∧ s140 98 5 = t0 98 5 ∧ s140 98 6 = t0 98 6 ∧ s140 98 7 = t0 98 7 ∧ s140 98 8 = t0 98 8 ∧ s140 98 9 = t0 98 9 ∧ s140 101 18 = t0 101 18 ∧ s140 101 25 = t0 101 25 ∧ s140 101 43 = t0 101 43 ∧ s140 = h_up s138 98 14 (t0 98 16)) => ?_))
                  refine h_vret rfl rfl (h_Kn ?_)
                  refine h_goto (pc' := 0) rfl rfl ?_
                  refine d_toL (g_inj ns) hlw106 hRw106 (fun lvw141 memw141 hlw141 hRw141 => ?_)
                  show h_T g_P (g_Y ns) 62 30 [(1, .int z105), (0, .ref 63)] [] s104 _
                  exact h_wk [(0, .ref 63), (1, .int z105)] ⟨rfl, rfl, trivial⟩ (ih _ _ Is104 Is140 Fs104 Fs140 z105 _ hz105  (by omega) (by omega) (by omega) (by omega) (by omega) (by omega) (by omega) (by omega) (by omega) (fun h => absurd h (by omega)) (Or.inl ⟨by omega, by omega, by omega, by omega⟩) (by omega) _ _ (h_al_ok ⟨rfl, trivial⟩ hlw141) hRw141)
            · clear hz111
              refine h_aload_n (pc' := 28) rfl rfl rfl ?_
              refine h_iconst (pc' := 29) (x := (Int32.ofInt 5)) rfl rfl rfl ?_
              refine h_call (sp := false) (pc' := 32) (M := [(0, .ref 98), (1, .int (Int32.ofInt 5))]) rfl rfl rfl rfl rfl rfl rfl rfl ?_
              refine h_aload_n (pc' := 1) rfl rfl rfl ?_
              refine h_getI (pc' := 4) (v := t0 98 13) rfl rfl rfl rfl rfl rfl (fun z142 hz142 => ?_)
              refine h_zne (tg := 20) (pc' := 7) rfl rfl rfl hz142 (fun c143 => absurd c143 (by omega)) (fun c143 => ?_)
              clear hz142
              refine h_aload_n (pc' := 8) rfl rfl rfl ?_
              refine h_iload_n (pc' := 9) rfl rfl rfl ?_
              refine h_put (pc' := 12) rfl rfl rfl rfl rfl rfl ci_5 rfl (h_fgt (E := fun s => s 98 15 = t0 98 15 ∧ s 98 16 = t0 98 16 ∧ s 98 17 = t0 98 17 ∧ s 98 18 = t0 98 18 ∧ s 98 13 = 5 ∧ s 98 14 = t0 98 14 ∧ s 98 5 = t0 98 5 ∧ s 98 6 = t0 98 6 ∧ s 98 7 = t0 98 7 ∧ s 98 8 = t0 98 8 ∧ s 98 9 = t0 98 9 ∧ s 101 18 = t0 101 18 ∧ s 101 25 = t0 101 25 ∧ s 101 43 = t0 101 43 ∧ s = h_up t0 98 13 5) _ (if_98_13 J0 (by omega)) (H0_.up rfl) ⟨rfl, rfl, rfl, rfl, rfl, rfl, rfl, rfl, rfl, rfl, rfl, rfl, rfl, rfl, rfl⟩ (fun s144 Is144 Fs144 (es144 : s144 98 15 = t0 98 15 ∧ s144 98 16 = t0 98 16 ∧ s144 98 17 = t0 98 17 ∧ s144 98 18 = t0 98 18 ∧ s144 98 13 = 5 ∧ s144 98 14 = t0 98 14 ∧ s144 98 5 = t0 98 5 ∧ s144 98 6 = t0 98 6 ∧ s144 98 7 = t0 98 7 ∧ s144 98 8 = t0 98 8 ∧ s144 98 9 = t0 98 9 ∧ s144 101 18 = t0 101 18 ∧ s144 101 25 = t0 101 25 ∧ s144 101 43 = t0 101 43 ∧ s144 = h_up t0 98 13 5) => ?_))
              refine h_aload_n (pc' := 13) rfl rfl rfl ?_
              refine h_aload_n (pc' := 14) rfl rfl rfl ?_
              refine h_getI (pc' := 17) (v := t0 98 16) rfl rfl rfl rfl rfl es144.2.1 (fun z145 hz145 => ?_)
              have tz145 := tf_98_16 J0
              refine h_put (pc' := 20) rfl rfl rfl rfl rfl rfl hz145 rfl (h_fgt (E := fun s => s 98 15 = t0 98 15 ∧ s 98 16 = t0 98 16 ∧ s 98 17 = t0 98 17 ∧ s 98 18 = t0 98 18 ∧ s 98 13 = 5 ∧ s 98 14 = (t0 98 16) ∧ s 98 5 = t0 98 5 ∧ s 98 6 = t0 98 6 ∧ s 98 7 = t0 98 7 ∧ s 98 8 = t0 98 8 ∧ s 98 9 = t0 98 9 ∧ s 101 18 = t0 101 18 ∧ s 101 25 = t0 101 25 ∧ s 101 43 = t0 101 43 ∧ s = h_up s144 98 14 (t0 98 16)) _ (if_98_14 Is144 (h_rgv hz145)) (Fs144.up rfl) ⟨es144.1, es144.2.1, es144.2.2.1, es144.2.2.2.1, es144.2.2.2.2.1, rfl, es144.2.2.2.2.2.2.1, es144.2.2.2.2.2.2.2.1, es144.2.2.2.2.2.2.2.2.1, es144.2.2.2.2.2.2.2.2.2.1, es144.2.2.2.2.2.2.2.2.2.2.1, es144.2.2.2.2.2.2.2.2.2.2.2.1, es144.2.2.2.2.2.2.2.2.2.2.2.2.1, es144.2.2.2.2.2.2.2.2.2.2.2.2.2.1, rfl⟩ (fun s146 Is146 Fs146 (es146 : s146 98 15 = t0 98 15 ∧ s146 98 16 = t0 98 16 ∧ s146 98 17 = t0 98 17 ∧ s146 98 18 = t0 98 18 ∧ s146 98 13 = 5 ∧ s146 98 14 = (t0 98 16) ∧ s146 98 5 = t0 98 5 ∧ s146 98 6 = t0 98 6 ∧ s146 98 7 = t0 98 7 ∧ s146 98 8 = t0 98 8 ∧ s146 98 9 = t0 98 9 ∧ s146 101 18 = t0 101 18 ∧ s146 101 25 = t0 101 25 ∧ s146 101 43 = t0 101 43 ∧ s146 = h_up s144 98 14 (t0 98 16)) => ?_))
              refine h_vret rfl rfl (h_Kn ?_)
              refine h_goto (pc' := 0) rfl rfl ?_
              refine d_toL (g_inj ns) hlw106 hRw106 (fun lvw147 memw147 hlw147 hRw147 => ?_)
              show h_T g_P (g_Y ns) 62 30 [(1, .int z105), (0, .ref 63)] [] s104 _
              exact h_wk [(0, .ref 63), (1, .int z105)] ⟨rfl, rfl, trivial⟩ (ih _ _ Is104 Is146 Fs104 Fs146 z105 _ hz105  (by omega) (by omega) (by omega) (by omega) (by omega) (by omega) (by omega) (by omega) (by omega) (fun h => absurd h (by omega)) (Or.inl ⟨by omega, by omega, by omega, by omega⟩) (by omega) _ _ (h_al_ok ⟨rfl, trivial⟩ hlw147) hRw147)
          · clear hz98
            refine h_iload_n (pc' := 45) rfl rfl rfl ?_
            refine h_bipush (pc' := 47) (x := (Int32.ofInt 10)) rfl rfl cb_10 ?_
            refine h_irem (pc' := 48) rfl rfl hz95 ci_10 (by omega) (by omega) (fun z148 hz148 => ?_)
            refine h_iconst (pc' := 49) (x := (Int32.ofInt 3)) rfl rfl rfl ?_
            refine h_clt (tg := 67) (pc' := 52) rfl rfl rfl hz148 ci_3 (fun c149 => ?_) (fun c149 => ?_)
            · clear hz148
              refine h_aload_n (pc' := 68) rfl rfl rfl ?_
              refine h_getR (pc' := 71) rfl rfl rfl rfl rfl ?_
              refine h_iload_n (pc' := 72) rfl rfl rfl ?_
              refine h_call (sp := false) (pc' := 75) (M := [(0, .ref 66), (1, .int z95)]) rfl rfl rfl rfl rfl rfl rfl rfl ?_
              refine h_aload_n (pc' := 1) rfl rfl rfl ?_
              refine h_getI (pc' := 4) (v := s0 66 10) rfl rfl rfl rfl rfl rfl (fun z150 hz150 => ?_)
              refine h_bipush (pc' := 6) (x := (Int32.ofInt 8)) rfl rfl cb_8 ?_
              refine h_cge (tg := 29) (pc' := 9) rfl rfl rfl hz150 ci_8 (fun c151 => absurd c151 (by omega)) (fun c151 => ?_)
              clear hz150
              refine h_aload_n (pc' := 10) rfl rfl rfl ?_
              refine h_getR (pc' := 13) rfl rfl rfl rfl rfl ?_
              refine h_aload_n (pc' := 14) rfl rfl rfl ?_
              refine h_getI (pc' := 17) (v := s0 66 10) rfl rfl rfl rfl rfl rfl (fun z152 hz152 => ?_)
              refine h_iload_n (pc' := 18) rfl rfl rfl ?_
              refine h_iast (pc' := 19) rfl rfl rfl rfl hz152 (by omega) (by omega) hz95 (h_fgt (E := fun s => s 64 2 = s0 64 2 ∧ s 64 4 = s0 64 4 ∧ s 64 3 = s0 64 3 ∧ s 64 5 = s0 64 5 ∧ s 63 2 = s0 63 2 ∧ s 63 3 = s0 63 3 ∧ s 64 1 = s0 64 1 ∧ s 66 8 = s0 66 8 ∧ s 66 9 = s0 66 9 ∧ s 66 10 = s0 66 10 ∧ s 69 2 = s0 69 2 ∧ s 72 2 = s0 72 2 ∧ s 63 5 = s0 63 5 ∧ s = h_up s0 78 (s0 66 10) (s0 64 5)) _ (in_78 I0 (by omega)) (F0_.up rfl) ⟨rfl, rfl, rfl, rfl, rfl, rfl, rfl, rfl, rfl, rfl, rfl, rfl, rfl, rfl⟩ (fun s153 Is153 Fs153 (es153 : s153 64 2 = s0 64 2 ∧ s153 64 4 = s0 64 4 ∧ s153 64 3 = s0 64 3 ∧ s153 64 5 = s0 64 5 ∧ s153 63 2 = s0 63 2 ∧ s153 63 3 = s0 63 3 ∧ s153 64 1 = s0 64 1 ∧ s153 66 8 = s0 66 8 ∧ s153 66 9 = s0 66 9 ∧ s153 66 10 = s0 66 10 ∧ s153 69 2 = s0 69 2 ∧ s153 72 2 = s0 72 2 ∧ s153 63 5 = s0 63 5 ∧ s153 = h_up s0 78 (s0 66 10) (s0 64 5)) => ?_))
              clear hz152
              refine h_aload_n (pc' := 20) rfl rfl rfl ?_
              refine h_dup (pc' := 21) rfl rfl rfl ?_
              refine h_getI (pc' := 24) (v := s0 66 10) rfl rfl rfl rfl rfl es153.2.2.2.2.2.2.2.2.2.1 (fun z154 hz154 => ?_)
              refine h_iconst (pc' := 25) (x := (Int32.ofInt 1)) rfl rfl rfl ?_
              refine h_iadd (pc' := 26) rfl rfl hz154 ci_1 rfl (by omega) (by omega) (fun z155 hz155 => ?_)
              clear hz154
              refine h_put (pc' := 29) rfl rfl rfl rfl rfl rfl hz155 rfl (h_fgt (E := fun s => s 64 2 = s0 64 2 ∧ s 64 4 = s0 64 4 ∧ s 64 3 = s0 64 3 ∧ s 64 5 = s0 64 5 ∧ s 63 2 = s0 63 2 ∧ s 63 3 = s0 63 3 ∧ s 64 1 = s0 64 1 ∧ s 66 8 = s0 66 8 ∧ s 66 9 = s0 66 9 ∧ s 66 10 = ((s0 66 10) + 1) ∧ s 69 2 = s0 69 2 ∧ s 72 2 = s0 72 2 ∧ s 63 5 = s0 63 5 ∧ s = h_up s153 66 10 ((s0 66 10) + 1)) _ (if_66_10 Is153 (by omega)) (Fs153.up rfl) ⟨es153.1, es153.2.1, es153.2.2.1, es153.2.2.2.1, es153.2.2.2.2.1, es153.2.2.2.2.2.1, es153.2.2.2.2.2.2.1, es153.2.2.2.2.2.2.2.1, es153.2.2.2.2.2.2.2.2.1, rfl, es153.2.2.2.2.2.2.2.2.2.2.1, es153.2.2.2.2.2.2.2.2.2.2.2.1, es153.2.2.2.2.2.2.2.2.2.2.2.2.1, rfl⟩ (fun s156 Is156 Fs156 (es156 : s156 64 2 = s0 64 2 ∧ s156 64 4 = s0 64 4 ∧ s156 64 3 = s0 64 3 ∧ s156 64 5 = s0 64 5 ∧ s156 63 2 = s0 63 2 ∧ s156 63 3 = s0 63 3 ∧ s156 64 1 = s0 64 1 ∧ s156 66 8 = s0 66 8 ∧ s156 66 9 = s0 66 9 ∧ s156 66 10 = ((s0 66 10) + 1) ∧ s156 69 2 = s0 69 2 ∧ s156 72 2 = s0 72 2 ∧ s156 63 5 = s0 63 5 ∧ s156 = h_up s153 66 10 ((s0 66 10) + 1)) => ?_))
              refine h_vret rfl rfl (h_Kn ?_)
              refine h_aload_n (pc' := 76) rfl rfl rfl ?_
              refine d_toM (g_inj ns) hl2 hR2 (fun lvw157 memw157 hlw157 hRw157 => ?_)
              show h_T g_P (g_Y ns) 152 0 [(0, .ref 98)] [] t0 _
              refine h_aload_n (pc' := 1) rfl rfl rfl ?_
              refine h_getI (pc' := 4) (v := t0 98 13) rfl rfl rfl rfl rfl rfl (fun z158 hz158 => ?_)
              have tz158 := tf_98_13 J0
              refine h_zne (tg := 167) (pc' := 7) rfl rfl rfl hz158 (fun c159 => absurd c159 (by omega)) (fun c159 => ?_)
              clear hz158
              refine h_aload_n (pc' := 8) rfl rfl rfl ?_
              refine h_getI (pc' := 11) (v := t0 98 17) rfl rfl rfl rfl rfl rfl (fun z160 hz160 => ?_)
              have tz160 := tf_98_17 J0
              refine h_iconst (pc' := 12) (x := (Int32.ofInt 2)) rfl rfl rfl ?_
              refine h_cne (tg := 167) (pc' := 15) rfl rfl rfl hz160 ci_2 (fun c161 => absurd c161 (by omega)) (fun c161 => ?_)
              clear hz160
              refine h_aload_n (pc' := 16) rfl rfl rfl ?_
              refine h_getR (pc' := 19) rfl rfl rfl rfl rfl ?_
              refine h_bipush (pc' := 21) (x := (Int32.ofInt 43)) rfl rfl cb_43 ?_
              refine h_iald (pc' := 22) (v := t0 101 43) rfl rfl rfl ci_43 (by omega) (by omega) rfl (fun z162 hz162 => ?_)
              have tz162 := ty_101_10 J0 43 (by omega)
              refine h_bipush (pc' := 24) (x := (Int32.ofInt 8)) rfl rfl cb_8 ?_
              refine h_cne (tg := 35) (pc' := 27) rfl rfl rfl hz162 ci_8 (fun c163 => ?_) (fun c163 => ?_)
              · clear hz162
                refine h_aload_n (pc' := 36) rfl rfl rfl ?_
                refine h_getI (pc' := 39) (v := t0 98 18) rfl rfl rfl rfl rfl rfl (fun z164 hz164 => ?_)
                have tz164 := tf_98_18 J0
                refine h_bipush (pc' := 41) (x := (Int32.ofInt 10)) rfl rfl cb_10 ?_
                refine h_idiv (pc' := 42) rfl rfl hz164 ci_10 (by omega) (by omega) (fun z165 hz165 => ?_)
                clear hz164
                refine h_bipush (pc' := 44) (x := (Int32.ofInt 6)) rfl rfl cb_6 ?_
                refine h_cge (tg := 58) (pc' := 47) rfl rfl rfl hz165 ci_6 (fun c166 => ?_) (fun c166 => ?_)
                · clear hz165
                  refine h_aload_n (pc' := 59) rfl rfl rfl ?_
                  refine h_iconst (pc' := 60) (x := (Int32.ofInt 3)) rfl rfl rfl ?_
                  refine h_call (sp := false) (pc' := 63) (M := [(0, .ref 98), (1, .int (Int32.ofInt 3))]) rfl rfl rfl rfl rfl rfl rfl rfl ?_
                  refine h_aload_n (pc' := 1) rfl rfl rfl ?_
                  refine h_getI (pc' := 4) (v := t0 98 13) rfl rfl rfl rfl rfl rfl (fun z167 hz167 => ?_)
                  refine h_zne (tg := 20) (pc' := 7) rfl rfl rfl hz167 (fun c168 => absurd c168 (by omega)) (fun c168 => ?_)
                  clear hz167
                  refine h_aload_n (pc' := 8) rfl rfl rfl ?_
                  refine h_iload_n (pc' := 9) rfl rfl rfl ?_
                  refine h_put (pc' := 12) rfl rfl rfl rfl rfl rfl ci_3 rfl (h_fgt (E := fun s => s 98 15 = t0 98 15 ∧ s 98 16 = t0 98 16 ∧ s 98 17 = t0 98 17 ∧ s 98 18 = t0 98 18 ∧ s 98 13 = 3 ∧ s 98 14 = t0 98 14 ∧ s 98 5 = t0 98 5 ∧ s 98 6 = t0 98 6 ∧ s 98 7 = t0 98 7 ∧ s 98 8 = t0 98 8 ∧ s 98 9 = t0 98 9 ∧ s 101 18 = t0 101 18 ∧ s 101 25 = t0 101 25 ∧ s 101 43 = t0 101 43 ∧ s = h_up t0 98 13 3) _ (if_98_13 J0 (by omega)) (H0_.up rfl) ⟨rfl, rfl, rfl, rfl, rfl, rfl, rfl, rfl, rfl, rfl, rfl, rfl, rfl, rfl, rfl⟩ (fun s169 Is169 Fs169 (es169 : s169 98 15 = t0 98 15 ∧ s169 98 16 = t0 98 16 ∧ s169 98 17 = t0 98 17 ∧ s169 98 18 = t0 98 18 ∧ s169 98 13 = 3 ∧ s169 98 14 = t0 98 14 ∧ s169 98 5 = t0 98 5 ∧ s169 98 6 = t0 98 6 ∧ s169 98 7 = t0 98 7 ∧ s169 98 8 = t0 98 8 ∧ s169 98 9 = t0 98 9 ∧ s169 101 18 = t0 101 18 ∧ s169 101 25 = t0 101 25 ∧ s169 101 43 = t0 101 43 ∧ s169 = h_up t0 98 13 3) => ?_))
                  refine h_aload_n (pc' := 13) rfl rfl rfl ?_
                  refine h_aload_n (pc' := 14) rfl rfl rfl ?_
                  refine h_getI (pc' := 17) (v := t0 98 16) rfl rfl rfl rfl rfl es169.2.1 (fun z170 hz170 => ?_)
                  have tz170 := tf_98_16 J0
                  refine h_put (pc' := 20) rfl rfl rfl rfl rfl rfl hz170 rfl (h_fgt (E := fun s => s 98 15 = t0 98 15 ∧ s 98 16 = t0 98 16 ∧ s 98 17 = t0 98 17 ∧ s 98 18 = t0 98 18 ∧ s 98 13 = 3 ∧ s 98 14 = (t0 98 16) ∧ s 98 5 = t0 98 5 ∧ s 98 6 = t0 98 6 ∧ s 98 7 = t0 98 7 ∧ s 98 8 = t0 98 8 ∧ s 98 9 = t0 98 9 ∧ s 101 18 = t0 101 18 ∧ s 101 25 = t0 101 25 ∧ s 101 43 = t0 101 43 ∧ s = h_up s169 98 14 (t0 98 16)) _ (if_98_14 Is169 (h_rgv hz170)) (Fs169.up rfl) ⟨es169.1, es169.2.1, es169.2.2.1, es169.2.2.2.1, es169.2.2.2.2.1, rfl, es169.2.2.2.2.2.2.1, es169.2.2.2.2.2.2.2.1, es169.2.2.2.2.2.2.2.2.1, es169.2.2.2.2.2.2.2.2.2.1, es169.2.2.2.2.2.2.2.2.2.2.1, es169.2.2.2.2.2.2.2.2.2.2.2.1, es169.2.2.2.2.2.2.2.2.2.2.2.2.1, es169.2.2.2.2.2.2.2.2.2.2.2.2.2.1, rfl⟩ (fun s171 Is171 Fs171 (es171 : s171 98 15 = t0 98 15 ∧ s171 98 16 = t0 98 16 ∧ s171 98 17 = t0 98 17 ∧ s171 98 18 = t0 98 18 ∧ s171 98 13 = 3 ∧ s171 98 14 = (t0 98 16) ∧ s171 98 5 = t0 98 5 ∧ s171 98 6 = t0 98 6 ∧ s171 98 7 = t0 98 7 ∧ s171 98 8 = t0 98 8 ∧ s171 98 9 = t0 98 9 ∧ s171 101 18 = t0 101 18 ∧ s171 101 25 = t0 101 25 ∧ s171 101 43 = t0 101 43 ∧ s171 = h_up s169 98 14 (t0 98 16)) => ?_))
                  refine h_vret rfl rfl (h_Kn ?_)
                  refine h_goto (pc' := 0) rfl rfl ?_
                  exfalso
                  omega
                · clear hz165
                  refine h_aload_n (pc' := 48) rfl rfl rfl ?_
                  refine h_getI (pc' := 51) (v := t0 98 18) rfl rfl rfl rfl rfl rfl (fun z172 hz172 => ?_)
                  refine h_bipush (pc' := 53) (x := (Int32.ofInt 10)) rfl rfl cb_10 ?_
                  refine h_irem (pc' := 54) rfl rfl hz172 ci_10 (by omega) (by omega) (fun z173 hz173 => ?_)
                  clear hz172
                  refine h_iconst (pc' := 55) (x := (Int32.ofInt 3)) rfl rfl rfl ?_
                  refine h_clt (tg := 66) (pc' := 58) rfl rfl rfl hz173 ci_3 (fun c174 => ?_) (fun c174 => ?_)
                  · clear hz173
                    have gH175 : 0 ≤ t0 98 18 ∧ t0 98 18 ≤ 99 := by have ga := tf_98_18 J0; omega
                    have oH175 : t0 98 8 = t0 98 8 := rfl
                    have vH175 : t0 98 18 = t0 98 18 := rfl
                    have uH175 := tf_98_8 J0
                    refine lm_ho _ J0 (by omega) (fun H175 hH175 => (h_fgt (E := fun s => s 98 15 = t0 98 15 ∧ s 98 16 = t0 98 16 ∧ s 98 17 = t0 98 17 ∧ s 98 18 = t0 98 18 ∧ s 98 13 = t0 98 13 ∧ s 98 14 = t0 98 14 ∧ s 98 5 = t0 98 5 ∧ s 98 6 = t0 98 6 ∧ s 98 7 = t0 98 7 ∧ s 98 8 = H175 ∧ s 98 9 = t0 98 9 ∧ s 101 18 = t0 101 18 ∧ s 101 25 = t0 101 25 ∧ s 101 43 = t0 101 43 ∧ s = h_up t0 98 8 H175) _ (if_98_8 J0 (by omega)) (H0_.up rfl) ⟨rfl, rfl, rfl, rfl, rfl, rfl, rfl, rfl, rfl, rfl, rfl, rfl, rfl, rfl, rfl⟩ (fun s176 Is176 Fs176 (es176 : s176 98 15 = t0 98 15 ∧ s176 98 16 = t0 98 16 ∧ s176 98 17 = t0 98 17 ∧ s176 98 18 = t0 98 18 ∧ s176 98 13 = t0 98 13 ∧ s176 98 14 = t0 98 14 ∧ s176 98 5 = t0 98 5 ∧ s176 98 6 = t0 98 6 ∧ s176 98 7 = t0 98 7 ∧ s176 98 8 = H175 ∧ s176 98 9 = t0 98 9 ∧ s176 101 18 = t0 101 18 ∧ s176 101 25 = t0 101 25 ∧ s176 101 43 = t0 101 43 ∧ s176 = h_up t0 98 8 H175) => ?_)))
                    have gH177 : 0 ≤ s176 98 18 ∧ s176 98 18 ≤ 99 := by have ga := es176.2.2.2.1; omega
                    have oH177 : s176 98 9 = t0 98 9 := es176.2.2.2.2.2.2.2.2.2.2.1
                    have vH177 : s176 98 18 = t0 98 18 := es176.2.2.2.1
                    have uH177 := tf_98_9 Is176
                    refine lm_hg _ Is176 (by omega) (fun H177 hH177 => (h_fgt (E := fun s => s 98 15 = t0 98 15 ∧ s 98 16 = t0 98 16 ∧ s 98 17 = t0 98 17 ∧ s 98 18 = t0 98 18 ∧ s 98 13 = t0 98 13 ∧ s 98 14 = t0 98 14 ∧ s 98 5 = t0 98 5 ∧ s 98 6 = t0 98 6 ∧ s 98 7 = t0 98 7 ∧ s 98 8 = H175 ∧ s 98 9 = H177 ∧ s 101 18 = t0 101 18 ∧ s 101 25 = t0 101 25 ∧ s 101 43 = t0 101 43 ∧ s = h_up s176 98 9 H177) _ (if_98_9 Is176 (by omega)) (Fs176.up rfl) ⟨es176.1, es176.2.1, es176.2.2.1, es176.2.2.2.1, es176.2.2.2.2.1, es176.2.2.2.2.2.1, es176.2.2.2.2.2.2.1, es176.2.2.2.2.2.2.2.1, es176.2.2.2.2.2.2.2.2.1, es176.2.2.2.2.2.2.2.2.2.1, rfl, es176.2.2.2.2.2.2.2.2.2.2.2.1, es176.2.2.2.2.2.2.2.2.2.2.2.2.1, es176.2.2.2.2.2.2.2.2.2.2.2.2.2.1, rfl⟩ (fun s178 Is178 Fs178 (es178 : s178 98 15 = t0 98 15 ∧ s178 98 16 = t0 98 16 ∧ s178 98 17 = t0 98 17 ∧ s178 98 18 = t0 98 18 ∧ s178 98 13 = t0 98 13 ∧ s178 98 14 = t0 98 14 ∧ s178 98 5 = t0 98 5 ∧ s178 98 6 = t0 98 6 ∧ s178 98 7 = t0 98 7 ∧ s178 98 8 = H175 ∧ s178 98 9 = H177 ∧ s178 101 18 = t0 101 18 ∧ s178 101 25 = t0 101 25 ∧ s178 101 43 = t0 101 43 ∧ s178 = h_up s176 98 9 H177) => ?_)))
                    refine h_aload_n (pc' := 131) rfl rfl rfl ?_
                    refine h_getR (pc' := 134) rfl rfl rfl rfl rfl ?_
                    refine h_bipush (pc' := 136) (x := (Int32.ofInt 35)) rfl rfl cb_35 ?_
                    refine h_aload_n (pc' := 137) rfl rfl rfl ?_
                    refine h_getR (pc' := 140) rfl rfl rfl rfl rfl ?_
                    refine h_bipush (pc' := 142) (x := (Int32.ofInt 43)) rfl rfl cb_43 ?_
                    refine h_iald (pc' := 143) (v := t0 101 43) rfl rfl rfl ci_43 (by omega) (by omega) es178.2.2.2.2.2.2.2.2.2.2.2.2.2.1 (fun z179 hz179 => ?_)
                    refine h_iadd (pc' := 144) rfl rfl ci_35 hz179 rfl (by omega) (by omega) (fun z180 hz180 => ?_)
                    clear hz179
                    refine h_aload_n (pc' := 145) rfl rfl rfl ?_
                    refine h_getI (pc' := 148) (v := t0 98 18) rfl rfl rfl rfl rfl es178.2.2.2.1 (fun z181 hz181 => ?_)
                    refine h_iast (pc' := 149) rfl rfl rfl rfl hz180 (by omega) (by omega) hz181 (h_fgt (E := fun s => s 98 15 = t0 98 15 ∧ s 98 16 = t0 98 16 ∧ s 98 17 = t0 98 17 ∧ s 98 18 = t0 98 18 ∧ s 98 13 = t0 98 13 ∧ s 98 14 = t0 98 14 ∧ s 98 5 = t0 98 5 ∧ s 98 6 = t0 98 6 ∧ s 98 7 = t0 98 7 ∧ s 98 8 = H175 ∧ s 98 9 = H177 ∧ s 101 18 = t0 101 18 ∧ s 101 25 = t0 101 25 ∧ s 101 43 = t0 101 43 ∧ s = h_up s178 101 (35 + (t0 101 43)) (t0 98 18)) _ (ip_101_9 Is178 (by omega) (by omega)) (Fs178.up rfl) ⟨es178.1, es178.2.1, es178.2.2.1, es178.2.2.2.1, es178.2.2.2.2.1, es178.2.2.2.2.2.1, es178.2.2.2.2.2.2.1, es178.2.2.2.2.2.2.2.1, es178.2.2.2.2.2.2.2.2.1, es178.2.2.2.2.2.2.2.2.2.1, es178.2.2.2.2.2.2.2.2.2.2.1, h_up_n2 (by omega) es178.2.2.2.2.2.2.2.2.2.2.2.1, h_up_n2 (by omega) es178.2.2.2.2.2.2.2.2.2.2.2.2.1, h_up_n2 (by omega) es178.2.2.2.2.2.2.2.2.2.2.2.2.2.1, rfl⟩ (fun s182 Is182 Fs182 (es182 : s182 98 15 = t0 98 15 ∧ s182 98 16 = t0 98 16 ∧ s182 98 17 = t0 98 17 ∧ s182 98 18 = t0 98 18 ∧ s182 98 13 = t0 98 13 ∧ s182 98 14 = t0 98 14 ∧ s182 98 5 = t0 98 5 ∧ s182 98 6 = t0 98 6 ∧ s182 98 7 = t0 98 7 ∧ s182 98 8 = H175 ∧ s182 98 9 = H177 ∧ s182 101 18 = t0 101 18 ∧ s182 101 25 = t0 101 25 ∧ s182 101 43 = t0 101 43 ∧ s182 = h_up s178 101 (35 + (t0 101 43)) (t0 98 18)) => ?_))
                    clear hz180 hz181
                    refine h_aload_n (pc' := 150) rfl rfl rfl ?_
                    refine h_getR (pc' := 153) rfl rfl rfl rfl rfl ?_
                    refine h_bipush (pc' := 155) (x := (Int32.ofInt 43)) rfl rfl cb_43 ?_
                    refine h_dup2 (pc' := 156) rfl rfl rfl ?_
                    refine h_iald (pc' := 157) (v := t0 101 43) rfl rfl rfl ci_43 (by omega) (by omega) es182.2.2.2.2.2.2.2.2.2.2.2.2.2.1 (fun z183 hz183 => ?_)
                    refine h_iconst (pc' := 158) (x := (Int32.ofInt 1)) rfl rfl rfl ?_
                    refine h_iadd (pc' := 159) rfl rfl hz183 ci_1 rfl (by omega) (by omega) (fun z184 hz184 => ?_)
                    clear hz183
                    refine h_iast (pc' := 160) rfl rfl rfl rfl ci_43 (by omega) (by omega) hz184 (h_fgt (E := fun s => s 98 15 = t0 98 15 ∧ s 98 16 = t0 98 16 ∧ s 98 17 = t0 98 17 ∧ s 98 18 = t0 98 18 ∧ s 98 13 = t0 98 13 ∧ s 98 14 = t0 98 14 ∧ s 98 5 = t0 98 5 ∧ s 98 6 = t0 98 6 ∧ s 98 7 = t0 98 7 ∧ s 98 8 = H175 ∧ s 98 9 = H177 ∧ s 101 18 = t0 101 18 ∧ s 101 25 = t0 101 25 ∧ s 101 43 = ((t0 101 43) + 1) ∧ s = h_up s182 101 43 ((t0 101 43) + 1)) _ (ip_101_10 Is182 (by omega) (by omega)) (Fs182.up rfl) ⟨es182.1, es182.2.1, es182.2.2.1, es182.2.2.2.1, es182.2.2.2.2.1, es182.2.2.2.2.2.1, es182.2.2.2.2.2.2.1, es182.2.2.2.2.2.2.2.1, es182.2.2.2.2.2.2.2.2.1, es182.2.2.2.2.2.2.2.2.2.1, es182.2.2.2.2.2.2.2.2.2.2.1, es182.2.2.2.2.2.2.2.2.2.2.2.1, es182.2.2.2.2.2.2.2.2.2.2.2.2.1, rfl, rfl⟩ (fun s185 Is185 Fs185 (es185 : s185 98 15 = t0 98 15 ∧ s185 98 16 = t0 98 16 ∧ s185 98 17 = t0 98 17 ∧ s185 98 18 = t0 98 18 ∧ s185 98 13 = t0 98 13 ∧ s185 98 14 = t0 98 14 ∧ s185 98 5 = t0 98 5 ∧ s185 98 6 = t0 98 6 ∧ s185 98 7 = t0 98 7 ∧ s185 98 8 = H175 ∧ s185 98 9 = H177 ∧ s185 101 18 = t0 101 18 ∧ s185 101 25 = t0 101 25 ∧ s185 101 43 = ((t0 101 43) + 1) ∧ s185 = h_up s182 101 43 ((t0 101 43) + 1)) => ?_))
                    refine h_aload_n (pc' := 161) rfl rfl rfl ?_
                    refine d_pcall (g_inj ns) (m1 := 54) (pc1' := 79) (M1 := [(0, .ref 63)]) (rest1 := []) (m2 := 148) (pc2' := 164) (M2 := [(0, .ref 98)]) (rest2 := []) ⟨false, _, _, _, _, _, _, rfl, rfl, rfl, rfl, rfl, rfl, rfl⟩ ⟨false, _, _, _, _, _, _, rfl, rfl, rfl, rfl, rfl, rfl, rfl⟩ hRw157 ?_
                    refine pp_step Is156 Is185 (hTL.fr (Fs156.mono rfl) (Fs185.mono rfl)) (by omega) (by omega) (by omega) (by omega) (Or.inr ⟨by omega, by omega⟩) (fun sq186 tq186 Isq186 Itq186 Gsq186 Gtq186 yq186_0 yq186_1 yq186_2 yq186_3 yq186_4 pcq186 memq186 hRq186 => ?_)
                    have Fsq186 := (Gsq186.mono (B := k_pl) rfl).tr Fs156
                    have Ftq186 := (Gtq186.mono (B := k_pm) rfl).tr Fs185
                    have esq186_6 : sq186 64 1 = s0 64 1 := (Gsq186 64 1 rfl).trans es156.2.2.2.2.2.2.1
                    have esq186_7 : sq186 66 8 = s0 66 8 := (Gsq186 66 8 rfl).trans es156.2.2.2.2.2.2.2.1
                    have esq186_8 : sq186 66 9 = s0 66 9 := (Gsq186 66 9 rfl).trans es156.2.2.2.2.2.2.2.2.1
                    have esq186_9 : sq186 66 10 = ((s0 66 10) + 1) := (Gsq186 66 10 rfl).trans es156.2.2.2.2.2.2.2.2.2.1
                    have esq186_10 : sq186 69 2 = s0 69 2 := (Gsq186 69 2 rfl).trans es156.2.2.2.2.2.2.2.2.2.2.1
                    have esq186_11 : sq186 72 2 = s0 72 2 := (Gsq186 72 2 rfl).trans es156.2.2.2.2.2.2.2.2.2.2.2.1
                    have esq186_12 : sq186 63 5 = s0 63 5 := (Gsq186 63 5 rfl).trans es156.2.2.2.2.2.2.2.2.2.2.2.2.1
                    have etq186_6 : tq186 98 5 = t0 98 5 := (Gtq186 98 5 rfl).trans es185.2.2.2.2.2.2.1
                    have etq186_7 : tq186 98 6 = t0 98 6 := (Gtq186 98 6 rfl).trans es185.2.2.2.2.2.2.2.1
                    have etq186_8 : tq186 98 7 = t0 98 7 := (Gtq186 98 7 rfl).trans es185.2.2.2.2.2.2.2.2.1
                    have etq186_9 : tq186 98 8 = H175 := (Gtq186 98 8 rfl).trans es185.2.2.2.2.2.2.2.2.2.1
                    have etq186_10 : tq186 98 9 = H177 := (Gtq186 98 9 rfl).trans es185.2.2.2.2.2.2.2.2.2.2.1
                    have etq186_11 : tq186 101 18 = t0 101 18 := (Gtq186 101 18 rfl).trans es185.2.2.2.2.2.2.2.2.2.2.2.1
                    have etq186_12 : tq186 101 25 = t0 101 25 := (Gtq186 101 25 rfl).trans es185.2.2.2.2.2.2.2.2.2.2.2.2.1
                    have etq186_13 : tq186 101 43 = ((t0 101 43) + 1) := (Gtq186 101 43 rfl).trans es185.2.2.2.2.2.2.2.2.2.2.2.2.2.1
                    show h_T g_P (g_Y ns) 152 164 [(0, .ref 98)] [] tq186 _
                    refine h_goto (pc' := 0) rfl rfl ?_
                    refine d_toL (g_inj ns) hlw157 hRq186 (fun lvw187 memw187 hlw187 hRw187 => ?_)
                    show h_T g_P (g_Y ns) 63 79 [(1, .int z95), (0, .ref 63)] [] sq186 _
                    refine h_vret rfl rfl (d_retn hlv94 ?_)
                    clear hz95
                    refine h_iinc (pc' := 50) (M := fun z188 => [(1, .int z188), (0, .ref 63)]) rfl rfl rfl rfl hx1 ci_1 rfl (by omega) (by omega) (fun _ => rfl) (fun z188 hz188 => ?_)
                    refine h_goto (pc' := 30) rfl rfl ?_
                    exact h_wk [(0, .ref 63), (1, .int z188)] ⟨rfl, rfl, trivial⟩ (ih _ _ Isq186 Itq186 Fsq186 Ftq186 z188 _ hz188  (by omega) (by omega) (by omega) (by omega) (by omega) (by omega) (by omega) (by omega) (by omega) (fun _ => d_mk (esq186_7) (esq186_8) (esq186_9) (esq186_10) (esq186_11) (esq186_12) (fun j => (Gsq186 67 j rfl).trans ((h_upo es156.2.2.2.2.2.2.2.2.2.2.2.2.2 rfl j).trans ((h_upo es153.2.2.2.2.2.2.2.2.2.2.2.2.2 rfl j)))) (fun j => (Gsq186 68 j rfl).trans ((h_upo es156.2.2.2.2.2.2.2.2.2.2.2.2.2 rfl j).trans ((h_upo es153.2.2.2.2.2.2.2.2.2.2.2.2.2 rfl j)))) (fun j => (Gsq186 70 j rfl).trans ((h_upo es156.2.2.2.2.2.2.2.2.2.2.2.2.2 rfl j).trans ((h_upo es153.2.2.2.2.2.2.2.2.2.2.2.2.2 rfl j)))) (fun j => (Gsq186 71 j rfl).trans ((h_upo es156.2.2.2.2.2.2.2.2.2.2.2.2.2 rfl j).trans ((h_upo es153.2.2.2.2.2.2.2.2.2.2.2.2.2 rfl j)))) (fun j => (Gsq186 73 j rfl).trans ((h_upo es156.2.2.2.2.2.2.2.2.2.2.2.2.2 rfl j).trans ((h_upo es153.2.2.2.2.2.2.2.2.2.2.2.2.2 rfl j)))) (fun j => (Gsq186 74 j rfl).trans ((h_upo es156.2.2.2.2.2.2.2.2.2.2.2.2.2 rfl j).trans ((h_upo es153.2.2.2.2.2.2.2.2.2.2.2.2.2 rfl j)))) (fun j => (Gsq186 75 j rfl).trans ((h_upo es156.2.2.2.2.2.2.2.2.2.2.2.2.2 rfl j).trans ((h_upo es153.2.2.2.2.2.2.2.2.2.2.2.2.2 rfl j)))) (fun j => (Gsq186 76 j rfl).trans ((h_upo es156.2.2.2.2.2.2.2.2.2.2.2.2.2 rfl j).trans ((h_upo es153.2.2.2.2.2.2.2.2.2.2.2.2.2 rfl j)))) (fun j => (Gsq186 77 j rfl).trans ((h_upo es156.2.2.2.2.2.2.2.2.2.2.2.2.2 rfl j).trans ((h_upo es153.2.2.2.2.2.2.2.2.2.2.2.2.2 rfl j)))) (fun j => (Gsq186 78 j rfl).trans ((h_upo es156.2.2.2.2.2.2.2.2.2.2.2.2.2 rfl j).trans ((h_upi es153.2.2.2.2.2.2.2.2.2.2.2.2.2 j)))) (etq186_6) (etq186_7) (etq186_8) (etq186_9) (etq186_10) (fun j => (Gtq186 101 j rfl).trans ((h_upi es185.2.2.2.2.2.2.2.2.2.2.2.2.2.2 j).trans (congrArg (fun z => if j = 43 then ((t0 101 43) + 1) else z) ((h_upi es182.2.2.2.2.2.2.2.2.2.2.2.2.2.2 j).trans (congrArg (fun z => if j = (35 + (t0 101 43)) then (t0 98 18) else z) ((h_upo es178.2.2.2.2.2.2.2.2.2.2.2.2.2.2 rfl j).trans ((h_upo es176.2.2.2.2.2.2.2.2.2.2.2.2.2.2 rfl j)))))))) (r_act (ex9 (by omega)) (by omega) (by omega) (by omega) (by omega) (by omega) (by omega) (by omega) (by omega) (by omega) (by omega) (by omega) (by omega) (by omega) (by omega) (by omega) (by omega) (by omega))) (pcq186.elim (fun pcq186 => (Or.inl ⟨by omega, by omega, by omega, by omega⟩)) (fun pcq186 => (pcq186.elim (fun pcq186 => (Or.inr (Or.inl ⟨by omega, by omega, by omega, by omega, by omega⟩))) (fun pcq186 => (pcq186.elim (fun pcq186 => (Or.inr (Or.inr (Or.inl ⟨by omega, by omega, by omega, by omega, by omega⟩)))) (fun pcq186 => (pcq186.elim (fun pcq186 => (Or.inr (Or.inr (Or.inr (Or.inl ⟨by omega, by omega, by omega, by omega, by omega, by omega, by omega, by omega⟩))))) (fun pcq186 => (Or.inr (Or.inr (Or.inr (Or.inr ⟨by omega, by omega, by omega, by omega, by omega⟩)))))))))))) (by omega) _ _ (h_al_ok ⟨rfl, trivial⟩ hlw187) hRw187)
                  · clear hz173
                    refine h_aload_n (pc' := 59) rfl rfl rfl ?_
                    refine h_iconst (pc' := 60) (x := (Int32.ofInt 3)) rfl rfl rfl ?_
                    refine h_call (sp := false) (pc' := 63) (M := [(0, .ref 98), (1, .int (Int32.ofInt 3))]) rfl rfl rfl rfl rfl rfl rfl rfl ?_
                    refine h_aload_n (pc' := 1) rfl rfl rfl ?_
                    refine h_getI (pc' := 4) (v := t0 98 13) rfl rfl rfl rfl rfl rfl (fun z189 hz189 => ?_)
                    refine h_zne (tg := 20) (pc' := 7) rfl rfl rfl hz189 (fun c190 => absurd c190 (by omega)) (fun c190 => ?_)
                    clear hz189
                    refine h_aload_n (pc' := 8) rfl rfl rfl ?_
                    refine h_iload_n (pc' := 9) rfl rfl rfl ?_
                    refine h_put (pc' := 12) rfl rfl rfl rfl rfl rfl ci_3 rfl (h_fgt (E := fun s => s 98 15 = t0 98 15 ∧ s 98 16 = t0 98 16 ∧ s 98 17 = t0 98 17 ∧ s 98 18 = t0 98 18 ∧ s 98 13 = 3 ∧ s 98 14 = t0 98 14 ∧ s 98 5 = t0 98 5 ∧ s 98 6 = t0 98 6 ∧ s 98 7 = t0 98 7 ∧ s 98 8 = t0 98 8 ∧ s 98 9 = t0 98 9 ∧ s 101 18 = t0 101 18 ∧ s 101 25 = t0 101 25 ∧ s 101 43 = t0 101 43 ∧ s = h_up t0 98 13 3) _ (if_98_13 J0 (by omega)) (H0_.up rfl) ⟨rfl, rfl, rfl, rfl, rfl, rfl, rfl, rfl, rfl, rfl, rfl, rfl, rfl, rfl, rfl⟩ (fun s191 Is191 Fs191 (es191 : s191 98 15 = t0 98 15 ∧ s191 98 16 = t0 98 16 ∧ s191 98 17 = t0 98 17 ∧ s191 98 18 = t0 98 18 ∧ s191 98 13 = 3 ∧ s191 98 14 = t0 98 14 ∧ s191 98 5 = t0 98 5 ∧ s191 98 6 = t0 98 6 ∧ s191 98 7 = t0 98 7 ∧ s191 98 8 = t0 98 8 ∧ s191 98 9 = t0 98 9 ∧ s191 101 18 = t0 101 18 ∧ s191 101 25 = t0 101 25 ∧ s191 101 43 = t0 101 43 ∧ s191 = h_up t0 98 13 3) => ?_))
                    refine h_aload_n (pc' := 13) rfl rfl rfl ?_
                    refine h_aload_n (pc' := 14) rfl rfl rfl ?_
                    refine h_getI (pc' := 17) (v := t0 98 16) rfl rfl rfl rfl rfl es191.2.1 (fun z192 hz192 => ?_)
                    have tz192 := tf_98_16 J0
                    refine h_put (pc' := 20) rfl rfl rfl rfl rfl rfl hz192 rfl (h_fgt (E := fun s => s 98 15 = t0 98 15 ∧ s 98 16 = t0 98 16 ∧ s 98 17 = t0 98 17 ∧ s 98 18 = t0 98 18 ∧ s 98 13 = 3 ∧ s 98 14 = (t0 98 16) ∧ s 98 5 = t0 98 5 ∧ s 98 6 = t0 98 6 ∧ s 98 7 = t0 98 7 ∧ s 98 8 = t0 98 8 ∧ s 98 9 = t0 98 9 ∧ s 101 18 = t0 101 18 ∧ s 101 25 = t0 101 25 ∧ s 101 43 = t0 101 43 ∧ s = h_up s191 98 14 (t0 98 16)) _ (if_98_14 Is191 (h_rgv hz192)) (Fs191.up rfl) ⟨es191.1, es191.2.1, es191.2.2.1, es191.2.2.2.1, es191.2.2.2.2.1, rfl, es191.2.2.2.2.2.2.1, es191.2.2.2.2.2.2.2.1, es191.2.2.2.2.2.2.2.2.1, es191.2.2.2.2.2.2.2.2.2.1, es191.2.2.2.2.2.2.2.2.2.2.1, es191.2.2.2.2.2.2.2.2.2.2.2.1, es191.2.2.2.2.2.2.2.2.2.2.2.2.1, es191.2.2.2.2.2.2.2.2.2.2.2.2.2.1, rfl⟩ (fun s193 Is193 Fs193 (es193 : s193 98 15 = t0 98 15 ∧ s193 98 16 = t0 98 16 ∧ s193 98 17 = t0 98 17 ∧ s193 98 18 = t0 98 18 ∧ s193 98 13 = 3 ∧ s193 98 14 = (t0 98 16) ∧ s193 98 5 = t0 98 5 ∧ s193 98 6 = t0 98 6 ∧ s193 98 7 = t0 98 7 ∧ s193 98 8 = t0 98 8 ∧ s193 98 9 = t0 98 9 ∧ s193 101 18 = t0 101 18 ∧ s193 101 25 = t0 101 25 ∧ s193 101 43 = t0 101 43 ∧ s193 = h_up s191 98 14 (t0 98 16)) => ?_))
                    refine h_vret rfl rfl (h_Kn ?_)
                    refine h_goto (pc' := 0) rfl rfl ?_
                    exfalso
                    omega
              · clear hz162
                refine h_aload_n (pc' := 28) rfl rfl rfl ?_
                refine h_iconst (pc' := 29) (x := (Int32.ofInt 5)) rfl rfl rfl ?_
                refine h_call (sp := false) (pc' := 32) (M := [(0, .ref 98), (1, .int (Int32.ofInt 5))]) rfl rfl rfl rfl rfl rfl rfl rfl ?_
                refine h_aload_n (pc' := 1) rfl rfl rfl ?_
                refine h_getI (pc' := 4) (v := t0 98 13) rfl rfl rfl rfl rfl rfl (fun z194 hz194 => ?_)
                refine h_zne (tg := 20) (pc' := 7) rfl rfl rfl hz194 (fun c195 => absurd c195 (by omega)) (fun c195 => ?_)
                clear hz194
                refine h_aload_n (pc' := 8) rfl rfl rfl ?_
                refine h_iload_n (pc' := 9) rfl rfl rfl ?_
                refine h_put (pc' := 12) rfl rfl rfl rfl rfl rfl ci_5 rfl (h_fgt (E := fun s => s 98 15 = t0 98 15 ∧ s 98 16 = t0 98 16 ∧ s 98 17 = t0 98 17 ∧ s 98 18 = t0 98 18 ∧ s 98 13 = 5 ∧ s 98 14 = t0 98 14 ∧ s 98 5 = t0 98 5 ∧ s 98 6 = t0 98 6 ∧ s 98 7 = t0 98 7 ∧ s 98 8 = t0 98 8 ∧ s 98 9 = t0 98 9 ∧ s 101 18 = t0 101 18 ∧ s 101 25 = t0 101 25 ∧ s 101 43 = t0 101 43 ∧ s = h_up t0 98 13 5) _ (if_98_13 J0 (by omega)) (H0_.up rfl) ⟨rfl, rfl, rfl, rfl, rfl, rfl, rfl, rfl, rfl, rfl, rfl, rfl, rfl, rfl, rfl⟩ (fun s196 Is196 Fs196 (es196 : s196 98 15 = t0 98 15 ∧ s196 98 16 = t0 98 16 ∧ s196 98 17 = t0 98 17 ∧ s196 98 18 = t0 98 18 ∧ s196 98 13 = 5 ∧ s196 98 14 = t0 98 14 ∧ s196 98 5 = t0 98 5 ∧ s196 98 6 = t0 98 6 ∧ s196 98 7 = t0 98 7 ∧ s196 98 8 = t0 98 8 ∧ s196 98 9 = t0 98 9 ∧ s196 101 18 = t0 101 18 ∧ s196 101 25 = t0 101 25 ∧ s196 101 43 = t0 101 43 ∧ s196 = h_up t0 98 13 5) => ?_))
                refine h_aload_n (pc' := 13) rfl rfl rfl ?_
                refine h_aload_n (pc' := 14) rfl rfl rfl ?_
                refine h_getI (pc' := 17) (v := t0 98 16) rfl rfl rfl rfl rfl es196.2.1 (fun z197 hz197 => ?_)
                have tz197 := tf_98_16 J0
                refine h_put (pc' := 20) rfl rfl rfl rfl rfl rfl hz197 rfl (h_fgt (E := fun s => s 98 15 = t0 98 15 ∧ s 98 16 = t0 98 16 ∧ s 98 17 = t0 98 17 ∧ s 98 18 = t0 98 18 ∧ s 98 13 = 5 ∧ s 98 14 = (t0 98 16) ∧ s 98 5 = t0 98 5 ∧ s 98 6 = t0 98 6 ∧ s 98 7 = t0 98 7 ∧ s 98 8 = t0 98 8 ∧ s 98 9 = t0 98 9 ∧ s 101 18 = t0 101 18 ∧ s 101 25 = t0 101 25 ∧ s 101 43 = t0 101 43 ∧ s = h_up s196 98 14 (t0 98 16)) _ (if_98_14 Is196 (h_rgv hz197)) (Fs196.up rfl) ⟨es196.1, es196.2.1, es196.2.2.1, es196.2.2.2.1, es196.2.2.2.2.1, rfl, es196.2.2.2.2.2.2.1, es196.2.2.2.2.2.2.2.1, es196.2.2.2.2.2.2.2.2.1, es196.2.2.2.2.2.2.2.2.2.1, es196.2.2.2.2.2.2.2.2.2.2.1, es196.2.2.2.2.2.2.2.2.2.2.2.1, es196.2.2.2.2.2.2.2.2.2.2.2.2.1, es196.2.2.2.2.2.2.2.2.2.2.2.2.2.1, rfl⟩ (fun s198 Is198 Fs198 (es198 : s198 98 15 = t0 98 15 ∧ s198 98 16 = t0 98 16 ∧ s198 98 17 = t0 98 17 ∧ s198 98 18 = t0 98 18 ∧ s198 98 13 = 5 ∧ s198 98 14 = (t0 98 16) ∧ s198 98 5 = t0 98 5 ∧ s198 98 6 = t0 98 6 ∧ s198 98 7 = t0 98 7 ∧ s198 98 8 = t0 98 8 ∧ s198 98 9 = t0 98 9 ∧ s198 101 18 = t0 101 18 ∧ s198 101 25 = t0 101 25 ∧ s198 101 43 = t0 101 43 ∧ s198 = h_up s196 98 14 (t0 98 16)) => ?_))
                refine h_vret rfl rfl (h_Kn ?_)
                refine h_goto (pc' := 0) rfl rfl ?_
                exfalso
                omega
            · clear hz148
              refine h_aload_n (pc' := 53) rfl rfl rfl ?_
              refine h_iconst (pc' := 54) (x := (Int32.ofInt 3)) rfl rfl rfl ?_
              refine h_aload_n (pc' := 55) rfl rfl rfl ?_
              refine h_getR (pc' := 58) rfl rfl rfl rfl rfl ?_
              refine h_getI (pc' := 61) (v := s0 64 4) rfl rfl rfl rfl rfl rfl (fun z199 hz199 => ?_)
              have tz199 := tf_64_4 I0
              refine h_call (sp := false) (pc' := 64) (M := [(0, .ref 63), (1, .int (Int32.ofInt 3)), (2, .int z199)]) rfl rfl rfl rfl rfl rfl rfl rfl ?_
              refine h_aload_n (pc' := 1) rfl rfl rfl ?_
              refine h_getI (pc' := 4) (v := s0 63 2) rfl rfl rfl rfl rfl rfl (fun z200 hz200 => ?_)
              refine h_zne (tg := 17) (pc' := 7) rfl rfl rfl hz200 (fun c201 => absurd c201 (by omega)) (fun c201 => ?_)
              clear hz200
              refine h_aload_n (pc' := 8) rfl rfl rfl ?_
              refine h_iload_n (pc' := 9) rfl rfl rfl ?_
              refine h_put (pc' := 12) rfl rfl rfl rfl rfl rfl ci_3 rfl (h_fgt (E := fun s => s 64 2 = s0 64 2 ∧ s 64 4 = s0 64 4 ∧ s 64 3 = s0 64 3 ∧ s 64 5 = s0 64 5 ∧ s 63 2 = 3 ∧ s 63 3 = s0 63 3 ∧ s 64 1 = s0 64 1 ∧ s 66 8 = s0 66 8 ∧ s 66 9 = s0 66 9 ∧ s 66 10 = s0 66 10 ∧ s 69 2 = s0 69 2 ∧ s 72 2 = s0 72 2 ∧ s 63 5 = s0 63 5 ∧ s = h_up s0 63 2 3) _ (if_63_2 I0 (by omega)) (F0_.up rfl) ⟨rfl, rfl, rfl, rfl, rfl, rfl, rfl, rfl, rfl, rfl, rfl, rfl, rfl, rfl⟩ (fun s202 Is202 Fs202 (es202 : s202 64 2 = s0 64 2 ∧ s202 64 4 = s0 64 4 ∧ s202 64 3 = s0 64 3 ∧ s202 64 5 = s0 64 5 ∧ s202 63 2 = 3 ∧ s202 63 3 = s0 63 3 ∧ s202 64 1 = s0 64 1 ∧ s202 66 8 = s0 66 8 ∧ s202 66 9 = s0 66 9 ∧ s202 66 10 = s0 66 10 ∧ s202 69 2 = s0 69 2 ∧ s202 72 2 = s0 72 2 ∧ s202 63 5 = s0 63 5 ∧ s202 = h_up s0 63 2 3) => ?_))
              refine h_aload_n (pc' := 13) rfl rfl rfl ?_
              refine h_iload_n (pc' := 14) rfl rfl rfl ?_
              refine h_put (pc' := 17) rfl rfl rfl rfl rfl rfl hz199 rfl (h_fgt (E := fun s => s 64 2 = s0 64 2 ∧ s 64 4 = s0 64 4 ∧ s 64 3 = s0 64 3 ∧ s 64 5 = s0 64 5 ∧ s 63 2 = 3 ∧ s 63 3 = (s0 64 4) ∧ s 64 1 = s0 64 1 ∧ s 66 8 = s0 66 8 ∧ s 66 9 = s0 66 9 ∧ s 66 10 = s0 66 10 ∧ s 69 2 = s0 69 2 ∧ s 72 2 = s0 72 2 ∧ s 63 5 = s0 63 5 ∧ s = h_up s202 63 3 (s0 64 4)) _ (if_63_3 Is202 (h_rgv hz199)) (Fs202.up rfl) ⟨es202.1, es202.2.1, es202.2.2.1, es202.2.2.2.1, es202.2.2.2.2.1, rfl, es202.2.2.2.2.2.2.1, es202.2.2.2.2.2.2.2.1, es202.2.2.2.2.2.2.2.2.1, es202.2.2.2.2.2.2.2.2.2.1, es202.2.2.2.2.2.2.2.2.2.2.1, es202.2.2.2.2.2.2.2.2.2.2.2.1, es202.2.2.2.2.2.2.2.2.2.2.2.2.1, rfl⟩ (fun s203 Is203 Fs203 (es203 : s203 64 2 = s0 64 2 ∧ s203 64 4 = s0 64 4 ∧ s203 64 3 = s0 64 3 ∧ s203 64 5 = s0 64 5 ∧ s203 63 2 = 3 ∧ s203 63 3 = (s0 64 4) ∧ s203 64 1 = s0 64 1 ∧ s203 66 8 = s0 66 8 ∧ s203 66 9 = s0 66 9 ∧ s203 66 10 = s0 66 10 ∧ s203 69 2 = s0 69 2 ∧ s203 72 2 = s0 72 2 ∧ s203 63 5 = s0 63 5 ∧ s203 = h_up s202 63 3 (s0 64 4)) => ?_))
              refine h_vret rfl rfl (h_Kn ?_)
              refine h_goto (pc' := 79) rfl rfl ?_
              refine h_vret rfl rfl (d_retn hlv94 ?_)
              clear hz95
              refine h_iinc (pc' := 50) (M := fun z204 => [(1, .int z204), (0, .ref 63)]) rfl rfl rfl rfl hx1 ci_1 rfl (by omega) (by omega) (fun _ => rfl) (fun z204 hz204 => ?_)
              refine h_goto (pc' := 30) rfl rfl ?_
              refine d_toM (g_inj ns) hl2 hR2 (fun lvw205 memw205 hlw205 hRw205 => ?_)
              show h_T g_P (g_Y ns) 152 0 [(0, .ref 98)] [] t0 _
              refine h_aload_n (pc' := 1) rfl rfl rfl ?_
              refine h_getI (pc' := 4) (v := t0 98 13) rfl rfl rfl rfl rfl rfl (fun z206 hz206 => ?_)
              have tz206 := tf_98_13 J0
              refine h_zne (tg := 167) (pc' := 7) rfl rfl rfl hz206 (fun c207 => absurd c207 (by omega)) (fun c207 => ?_)
              clear hz206
              refine h_aload_n (pc' := 8) rfl rfl rfl ?_
              refine h_getI (pc' := 11) (v := t0 98 17) rfl rfl rfl rfl rfl rfl (fun z208 hz208 => ?_)
              have tz208 := tf_98_17 J0
              refine h_iconst (pc' := 12) (x := (Int32.ofInt 2)) rfl rfl rfl ?_
              refine h_cne (tg := 167) (pc' := 15) rfl rfl rfl hz208 ci_2 (fun c209 => absurd c209 (by omega)) (fun c209 => ?_)
              clear hz208
              refine h_aload_n (pc' := 16) rfl rfl rfl ?_
              refine h_getR (pc' := 19) rfl rfl rfl rfl rfl ?_
              refine h_bipush (pc' := 21) (x := (Int32.ofInt 43)) rfl rfl cb_43 ?_
              refine h_iald (pc' := 22) (v := t0 101 43) rfl rfl rfl ci_43 (by omega) (by omega) rfl (fun z210 hz210 => ?_)
              have tz210 := ty_101_10 J0 43 (by omega)
              refine h_bipush (pc' := 24) (x := (Int32.ofInt 8)) rfl rfl cb_8 ?_
              refine h_cne (tg := 35) (pc' := 27) rfl rfl rfl hz210 ci_8 (fun c211 => ?_) (fun c211 => ?_)
              · clear hz210
                refine h_aload_n (pc' := 36) rfl rfl rfl ?_
                refine h_getI (pc' := 39) (v := t0 98 18) rfl rfl rfl rfl rfl rfl (fun z212 hz212 => ?_)
                have tz212 := tf_98_18 J0
                refine h_bipush (pc' := 41) (x := (Int32.ofInt 10)) rfl rfl cb_10 ?_
                refine h_idiv (pc' := 42) rfl rfl hz212 ci_10 (by omega) (by omega) (fun z213 hz213 => ?_)
                clear hz212
                refine h_bipush (pc' := 44) (x := (Int32.ofInt 6)) rfl rfl cb_6 ?_
                refine h_cge (tg := 58) (pc' := 47) rfl rfl rfl hz213 ci_6 (fun c214 => ?_) (fun c214 => ?_)
                · clear hz213
                  refine h_aload_n (pc' := 59) rfl rfl rfl ?_
                  refine h_iconst (pc' := 60) (x := (Int32.ofInt 3)) rfl rfl rfl ?_
                  refine h_call (sp := false) (pc' := 63) (M := [(0, .ref 98), (1, .int (Int32.ofInt 3))]) rfl rfl rfl rfl rfl rfl rfl rfl ?_
                  refine h_aload_n (pc' := 1) rfl rfl rfl ?_
                  refine h_getI (pc' := 4) (v := t0 98 13) rfl rfl rfl rfl rfl rfl (fun z215 hz215 => ?_)
                  refine h_zne (tg := 20) (pc' := 7) rfl rfl rfl hz215 (fun c216 => absurd c216 (by omega)) (fun c216 => ?_)
                  clear hz215
                  refine h_aload_n (pc' := 8) rfl rfl rfl ?_
                  refine h_iload_n (pc' := 9) rfl rfl rfl ?_
                  refine h_put (pc' := 12) rfl rfl rfl rfl rfl rfl ci_3 rfl (h_fgt (E := fun s => s 98 15 = t0 98 15 ∧ s 98 16 = t0 98 16 ∧ s 98 17 = t0 98 17 ∧ s 98 18 = t0 98 18 ∧ s 98 13 = 3 ∧ s 98 14 = t0 98 14 ∧ s 98 5 = t0 98 5 ∧ s 98 6 = t0 98 6 ∧ s 98 7 = t0 98 7 ∧ s 98 8 = t0 98 8 ∧ s 98 9 = t0 98 9 ∧ s 101 18 = t0 101 18 ∧ s 101 25 = t0 101 25 ∧ s 101 43 = t0 101 43 ∧ s = h_up t0 98 13 3) _ (if_98_13 J0 (by omega)) (H0_.up rfl) ⟨rfl, rfl, rfl, rfl, rfl, rfl, rfl, rfl, rfl, rfl, rfl, rfl, rfl, rfl, rfl⟩ (fun s217 Is217 Fs217 (es217 : s217 98 15 = t0 98 15 ∧ s217 98 16 = t0 98 16 ∧ s217 98 17 = t0 98 17 ∧ s217 98 18 = t0 98 18 ∧ s217 98 13 = 3 ∧ s217 98 14 = t0 98 14 ∧ s217 98 5 = t0 98 5 ∧ s217 98 6 = t0 98 6 ∧ s217 98 7 = t0 98 7 ∧ s217 98 8 = t0 98 8 ∧ s217 98 9 = t0 98 9 ∧ s217 101 18 = t0 101 18 ∧ s217 101 25 = t0 101 25 ∧ s217 101 43 = t0 101 43 ∧ s217 = h_up t0 98 13 3) => ?_))
                  refine h_aload_n (pc' := 13) rfl rfl rfl ?_
                  refine h_aload_n (pc' := 14) rfl rfl rfl ?_
                  refine h_getI (pc' := 17) (v := t0 98 16) rfl rfl rfl rfl rfl es217.2.1 (fun z218 hz218 => ?_)
                  have tz218 := tf_98_16 J0
                  refine h_put (pc' := 20) rfl rfl rfl rfl rfl rfl hz218 rfl (h_fgt (E := fun s => s 98 15 = t0 98 15 ∧ s 98 16 = t0 98 16 ∧ s 98 17 = t0 98 17 ∧ s 98 18 = t0 98 18 ∧ s 98 13 = 3 ∧ s 98 14 = (t0 98 16) ∧ s 98 5 = t0 98 5 ∧ s 98 6 = t0 98 6 ∧ s 98 7 = t0 98 7 ∧ s 98 8 = t0 98 8 ∧ s 98 9 = t0 98 9 ∧ s 101 18 = t0 101 18 ∧ s 101 25 = t0 101 25 ∧ s 101 43 = t0 101 43 ∧ s = h_up s217 98 14 (t0 98 16)) _ (if_98_14 Is217 (h_rgv hz218)) (Fs217.up rfl) ⟨es217.1, es217.2.1, es217.2.2.1, es217.2.2.2.1, es217.2.2.2.2.1, rfl, es217.2.2.2.2.2.2.1, es217.2.2.2.2.2.2.2.1, es217.2.2.2.2.2.2.2.2.1, es217.2.2.2.2.2.2.2.2.2.1, es217.2.2.2.2.2.2.2.2.2.2.1, es217.2.2.2.2.2.2.2.2.2.2.2.1, es217.2.2.2.2.2.2.2.2.2.2.2.2.1, es217.2.2.2.2.2.2.2.2.2.2.2.2.2.1, rfl⟩ (fun s219 Is219 Fs219 (es219 : s219 98 15 = t0 98 15 ∧ s219 98 16 = t0 98 16 ∧ s219 98 17 = t0 98 17 ∧ s219 98 18 = t0 98 18 ∧ s219 98 13 = 3 ∧ s219 98 14 = (t0 98 16) ∧ s219 98 5 = t0 98 5 ∧ s219 98 6 = t0 98 6 ∧ s219 98 7 = t0 98 7 ∧ s219 98 8 = t0 98 8 ∧ s219 98 9 = t0 98 9 ∧ s219 101 18 = t0 101 18 ∧ s219 101 25 = t0 101 25 ∧ s219 101 43 = t0 101 43 ∧ s219 = h_up s217 98 14 (t0 98 16)) => ?_))
                  refine h_vret rfl rfl (h_Kn ?_)
                  refine h_goto (pc' := 0) rfl rfl ?_
                  refine d_toL (g_inj ns) hlw205 hRw205 (fun lvw220 memw220 hlw220 hRw220 => ?_)
                  show h_T g_P (g_Y ns) 62 30 [(1, .int z204), (0, .ref 63)] [] s203 _
                  exact h_wk [(0, .ref 63), (1, .int z204)] ⟨rfl, rfl, trivial⟩ (ih _ _ Is203 Is219 Fs203 Fs219 z204 _ hz204  (by omega) (by omega) (by omega) (by omega) (by omega) (by omega) (by omega) (by omega) (by omega) (fun h => absurd h (by omega)) (Or.inl ⟨by omega, by omega, by omega, by omega⟩) (by omega) _ _ (h_al_ok ⟨rfl, trivial⟩ hlw220) hRw220)
                · clear hz213
                  refine h_aload_n (pc' := 48) rfl rfl rfl ?_
                  refine h_getI (pc' := 51) (v := t0 98 18) rfl rfl rfl rfl rfl rfl (fun z221 hz221 => ?_)
                  refine h_bipush (pc' := 53) (x := (Int32.ofInt 10)) rfl rfl cb_10 ?_
                  refine h_irem (pc' := 54) rfl rfl hz221 ci_10 (by omega) (by omega) (fun z222 hz222 => ?_)
                  clear hz221
                  refine h_iconst (pc' := 55) (x := (Int32.ofInt 3)) rfl rfl rfl ?_
                  refine h_clt (tg := 66) (pc' := 58) rfl rfl rfl hz222 ci_3 (fun c223 => ?_) (fun c223 => ?_)
                  · clear hz222
                    have gH224 : 0 ≤ t0 98 18 ∧ t0 98 18 ≤ 99 := by have ga := tf_98_18 J0; omega
                    have oH224 : t0 98 8 = t0 98 8 := rfl
                    have vH224 : t0 98 18 = t0 98 18 := rfl
                    have uH224 := tf_98_8 J0
                    refine lm_ho _ J0 (by omega) (fun H224 hH224 => (h_fgt (E := fun s => s 98 15 = t0 98 15 ∧ s 98 16 = t0 98 16 ∧ s 98 17 = t0 98 17 ∧ s 98 18 = t0 98 18 ∧ s 98 13 = t0 98 13 ∧ s 98 14 = t0 98 14 ∧ s 98 5 = t0 98 5 ∧ s 98 6 = t0 98 6 ∧ s 98 7 = t0 98 7 ∧ s 98 8 = H224 ∧ s 98 9 = t0 98 9 ∧ s 101 18 = t0 101 18 ∧ s 101 25 = t0 101 25 ∧ s 101 43 = t0 101 43 ∧ s = h_up t0 98 8 H224) _ (if_98_8 J0 (by omega)) (H0_.up rfl) ⟨rfl, rfl, rfl, rfl, rfl, rfl, rfl, rfl, rfl, rfl, rfl, rfl, rfl, rfl, rfl⟩ (fun s225 Is225 Fs225 (es225 : s225 98 15 = t0 98 15 ∧ s225 98 16 = t0 98 16 ∧ s225 98 17 = t0 98 17 ∧ s225 98 18 = t0 98 18 ∧ s225 98 13 = t0 98 13 ∧ s225 98 14 = t0 98 14 ∧ s225 98 5 = t0 98 5 ∧ s225 98 6 = t0 98 6 ∧ s225 98 7 = t0 98 7 ∧ s225 98 8 = H224 ∧ s225 98 9 = t0 98 9 ∧ s225 101 18 = t0 101 18 ∧ s225 101 25 = t0 101 25 ∧ s225 101 43 = t0 101 43 ∧ s225 = h_up t0 98 8 H224) => ?_)))
                    have gH226 : 0 ≤ s225 98 18 ∧ s225 98 18 ≤ 99 := by have ga := es225.2.2.2.1; omega
                    have oH226 : s225 98 9 = t0 98 9 := es225.2.2.2.2.2.2.2.2.2.2.1
                    have vH226 : s225 98 18 = t0 98 18 := es225.2.2.2.1
                    have uH226 := tf_98_9 Is225
                    refine lm_hg _ Is225 (by omega) (fun H226 hH226 => (h_fgt (E := fun s => s 98 15 = t0 98 15 ∧ s 98 16 = t0 98 16 ∧ s 98 17 = t0 98 17 ∧ s 98 18 = t0 98 18 ∧ s 98 13 = t0 98 13 ∧ s 98 14 = t0 98 14 ∧ s 98 5 = t0 98 5 ∧ s 98 6 = t0 98 6 ∧ s 98 7 = t0 98 7 ∧ s 98 8 = H224 ∧ s 98 9 = H226 ∧ s 101 18 = t0 101 18 ∧ s 101 25 = t0 101 25 ∧ s 101 43 = t0 101 43 ∧ s = h_up s225 98 9 H226) _ (if_98_9 Is225 (by omega)) (Fs225.up rfl) ⟨es225.1, es225.2.1, es225.2.2.1, es225.2.2.2.1, es225.2.2.2.2.1, es225.2.2.2.2.2.1, es225.2.2.2.2.2.2.1, es225.2.2.2.2.2.2.2.1, es225.2.2.2.2.2.2.2.2.1, es225.2.2.2.2.2.2.2.2.2.1, rfl, es225.2.2.2.2.2.2.2.2.2.2.2.1, es225.2.2.2.2.2.2.2.2.2.2.2.2.1, es225.2.2.2.2.2.2.2.2.2.2.2.2.2.1, rfl⟩ (fun s227 Is227 Fs227 (es227 : s227 98 15 = t0 98 15 ∧ s227 98 16 = t0 98 16 ∧ s227 98 17 = t0 98 17 ∧ s227 98 18 = t0 98 18 ∧ s227 98 13 = t0 98 13 ∧ s227 98 14 = t0 98 14 ∧ s227 98 5 = t0 98 5 ∧ s227 98 6 = t0 98 6 ∧ s227 98 7 = t0 98 7 ∧ s227 98 8 = H224 ∧ s227 98 9 = H226 ∧ s227 101 18 = t0 101 18 ∧ s227 101 25 = t0 101 25 ∧ s227 101 43 = t0 101 43 ∧ s227 = h_up s225 98 9 H226) => ?_)))
                    refine h_aload_n (pc' := 131) rfl rfl rfl ?_
                    refine h_getR (pc' := 134) rfl rfl rfl rfl rfl ?_
                    refine h_bipush (pc' := 136) (x := (Int32.ofInt 35)) rfl rfl cb_35 ?_
                    refine h_aload_n (pc' := 137) rfl rfl rfl ?_
                    refine h_getR (pc' := 140) rfl rfl rfl rfl rfl ?_
                    refine h_bipush (pc' := 142) (x := (Int32.ofInt 43)) rfl rfl cb_43 ?_
                    refine h_iald (pc' := 143) (v := t0 101 43) rfl rfl rfl ci_43 (by omega) (by omega) es227.2.2.2.2.2.2.2.2.2.2.2.2.2.1 (fun z228 hz228 => ?_)
                    refine h_iadd (pc' := 144) rfl rfl ci_35 hz228 rfl (by omega) (by omega) (fun z229 hz229 => ?_)
                    clear hz228
                    refine h_aload_n (pc' := 145) rfl rfl rfl ?_
                    refine h_getI (pc' := 148) (v := t0 98 18) rfl rfl rfl rfl rfl es227.2.2.2.1 (fun z230 hz230 => ?_)
                    refine h_iast (pc' := 149) rfl rfl rfl rfl hz229 (by omega) (by omega) hz230 (h_fgt (E := fun s => s 98 15 = t0 98 15 ∧ s 98 16 = t0 98 16 ∧ s 98 17 = t0 98 17 ∧ s 98 18 = t0 98 18 ∧ s 98 13 = t0 98 13 ∧ s 98 14 = t0 98 14 ∧ s 98 5 = t0 98 5 ∧ s 98 6 = t0 98 6 ∧ s 98 7 = t0 98 7 ∧ s 98 8 = H224 ∧ s 98 9 = H226 ∧ s 101 18 = t0 101 18 ∧ s 101 25 = t0 101 25 ∧ s 101 43 = t0 101 43 ∧ s = h_up s227 101 (35 + (t0 101 43)) (t0 98 18)) _ (ip_101_9 Is227 (by omega) (by omega)) (Fs227.up rfl) ⟨es227.1, es227.2.1, es227.2.2.1, es227.2.2.2.1, es227.2.2.2.2.1, es227.2.2.2.2.2.1, es227.2.2.2.2.2.2.1, es227.2.2.2.2.2.2.2.1, es227.2.2.2.2.2.2.2.2.1, es227.2.2.2.2.2.2.2.2.2.1, es227.2.2.2.2.2.2.2.2.2.2.1, h_up_n2 (by omega) es227.2.2.2.2.2.2.2.2.2.2.2.1, h_up_n2 (by omega) es227.2.2.2.2.2.2.2.2.2.2.2.2.1, h_up_n2 (by omega) es227.2.2.2.2.2.2.2.2.2.2.2.2.2.1, rfl⟩ (fun s231 Is231 Fs231 (es231 : s231 98 15 = t0 98 15 ∧ s231 98 16 = t0 98 16 ∧ s231 98 17 = t0 98 17 ∧ s231 98 18 = t0 98 18 ∧ s231 98 13 = t0 98 13 ∧ s231 98 14 = t0 98 14 ∧ s231 98 5 = t0 98 5 ∧ s231 98 6 = t0 98 6 ∧ s231 98 7 = t0 98 7 ∧ s231 98 8 = H224 ∧ s231 98 9 = H226 ∧ s231 101 18 = t0 101 18 ∧ s231 101 25 = t0 101 25 ∧ s231 101 43 = t0 101 43 ∧ s231 = h_up s227 101 (35 + (t0 101 43)) (t0 98 18)) => ?_))
                    clear hz229 hz230
                    refine h_aload_n (pc' := 150) rfl rfl rfl ?_
                    refine h_getR (pc' := 153) rfl rfl rfl rfl rfl ?_
                    refine h_bipush (pc' := 155) (x := (Int32.ofInt 43)) rfl rfl cb_43 ?_
                    refine h_dup2 (pc' := 156) rfl rfl rfl ?_
                    refine h_iald (pc' := 157) (v := t0 101 43) rfl rfl rfl ci_43 (by omega) (by omega) es231.2.2.2.2.2.2.2.2.2.2.2.2.2.1 (fun z232 hz232 => ?_)
                    refine h_iconst (pc' := 158) (x := (Int32.ofInt 1)) rfl rfl rfl ?_
                    refine h_iadd (pc' := 159) rfl rfl hz232 ci_1 rfl (by omega) (by omega) (fun z233 hz233 => ?_)
                    clear hz232
                    refine h_iast (pc' := 160) rfl rfl rfl rfl ci_43 (by omega) (by omega) hz233 (h_fgt (E := fun s => s 98 15 = t0 98 15 ∧ s 98 16 = t0 98 16 ∧ s 98 17 = t0 98 17 ∧ s 98 18 = t0 98 18 ∧ s 98 13 = t0 98 13 ∧ s 98 14 = t0 98 14 ∧ s 98 5 = t0 98 5 ∧ s 98 6 = t0 98 6 ∧ s 98 7 = t0 98 7 ∧ s 98 8 = H224 ∧ s 98 9 = H226 ∧ s 101 18 = t0 101 18 ∧ s 101 25 = t0 101 25 ∧ s 101 43 = ((t0 101 43) + 1) ∧ s = h_up s231 101 43 ((t0 101 43) + 1)) _ (ip_101_10 Is231 (by omega) (by omega)) (Fs231.up rfl) ⟨es231.1, es231.2.1, es231.2.2.1, es231.2.2.2.1, es231.2.2.2.2.1, es231.2.2.2.2.2.1, es231.2.2.2.2.2.2.1, es231.2.2.2.2.2.2.2.1, es231.2.2.2.2.2.2.2.2.1, es231.2.2.2.2.2.2.2.2.2.1, es231.2.2.2.2.2.2.2.2.2.2.1, es231.2.2.2.2.2.2.2.2.2.2.2.1, es231.2.2.2.2.2.2.2.2.2.2.2.2.1, rfl, rfl⟩ (fun s234 Is234 Fs234 (es234 : s234 98 15 = t0 98 15 ∧ s234 98 16 = t0 98 16 ∧ s234 98 17 = t0 98 17 ∧ s234 98 18 = t0 98 18 ∧ s234 98 13 = t0 98 13 ∧ s234 98 14 = t0 98 14 ∧ s234 98 5 = t0 98 5 ∧ s234 98 6 = t0 98 6 ∧ s234 98 7 = t0 98 7 ∧ s234 98 8 = H224 ∧ s234 98 9 = H226 ∧ s234 101 18 = t0 101 18 ∧ s234 101 25 = t0 101 25 ∧ s234 101 43 = ((t0 101 43) + 1) ∧ s234 = h_up s231 101 43 ((t0 101 43) + 1)) => ?_))
                    refine h_aload_n (pc' := 161) rfl rfl rfl ?_
                    exfalso
                    omega
                  · clear hz222
                    refine h_aload_n (pc' := 59) rfl rfl rfl ?_
                    refine h_iconst (pc' := 60) (x := (Int32.ofInt 3)) rfl rfl rfl ?_
                    refine h_call (sp := false) (pc' := 63) (M := [(0, .ref 98), (1, .int (Int32.ofInt 3))]) rfl rfl rfl rfl rfl rfl rfl rfl ?_
                    refine h_aload_n (pc' := 1) rfl rfl rfl ?_
                    refine h_getI (pc' := 4) (v := t0 98 13) rfl rfl rfl rfl rfl rfl (fun z235 hz235 => ?_)
                    refine h_zne (tg := 20) (pc' := 7) rfl rfl rfl hz235 (fun c236 => absurd c236 (by omega)) (fun c236 => ?_)
                    clear hz235
                    refine h_aload_n (pc' := 8) rfl rfl rfl ?_
                    refine h_iload_n (pc' := 9) rfl rfl rfl ?_
                    refine h_put (pc' := 12) rfl rfl rfl rfl rfl rfl ci_3 rfl (h_fgt (E := fun s => s 98 15 = t0 98 15 ∧ s 98 16 = t0 98 16 ∧ s 98 17 = t0 98 17 ∧ s 98 18 = t0 98 18 ∧ s 98 13 = 3 ∧ s 98 14 = t0 98 14 ∧ s 98 5 = t0 98 5 ∧ s 98 6 = t0 98 6 ∧ s 98 7 = t0 98 7 ∧ s 98 8 = t0 98 8 ∧ s 98 9 = t0 98 9 ∧ s 101 18 = t0 101 18 ∧ s 101 25 = t0 101 25 ∧ s 101 43 = t0 101 43 ∧ s = h_up t0 98 13 3) _ (if_98_13 J0 (by omega)) (H0_.up rfl) ⟨rfl, rfl, rfl, rfl, rfl, rfl, rfl, rfl, rfl, rfl, rfl, rfl, rfl, rfl, rfl⟩ (fun s237 Is237 Fs237 (es237 : s237 98 15 = t0 98 15 ∧ s237 98 16 = t0 98 16 ∧ s237 98 17 = t0 98 17 ∧ s237 98 18 = t0 98 18 ∧ s237 98 13 = 3 ∧ s237 98 14 = t0 98 14 ∧ s237 98 5 = t0 98 5 ∧ s237 98 6 = t0 98 6 ∧ s237 98 7 = t0 98 7 ∧ s237 98 8 = t0 98 8 ∧ s237 98 9 = t0 98 9 ∧ s237 101 18 = t0 101 18 ∧ s237 101 25 = t0 101 25 ∧ s237 101 43 = t0 101 43 ∧ s237 = h_up t0 98 13 3) => ?_))
                    refine h_aload_n (pc' := 13) rfl rfl rfl ?_
                    refine h_aload_n (pc' := 14) rfl rfl rfl ?_
                    refine h_getI (pc' := 17) (v := t0 98 16) rfl rfl rfl rfl rfl es237.2.1 (fun z238 hz238 => ?_)
                    have tz238 := tf_98_16 J0
                    refine h_put (pc' := 20) rfl rfl rfl rfl rfl rfl hz238 rfl (h_fgt (E := fun s => s 98 15 = t0 98 15 ∧ s 98 16 = t0 98 16 ∧ s 98 17 = t0 98 17 ∧ s 98 18 = t0 98 18 ∧ s 98 13 = 3 ∧ s 98 14 = (t0 98 16) ∧ s 98 5 = t0 98 5 ∧ s 98 6 = t0 98 6 ∧ s 98 7 = t0 98 7 ∧ s 98 8 = t0 98 8 ∧ s 98 9 = t0 98 9 ∧ s 101 18 = t0 101 18 ∧ s 101 25 = t0 101 25 ∧ s 101 43 = t0 101 43 ∧ s = h_up s237 98 14 (t0 98 16)) _ (if_98_14 Is237 (h_rgv hz238)) (Fs237.up rfl) ⟨es237.1, es237.2.1, es237.2.2.1, es237.2.2.2.1, es237.2.2.2.2.1, rfl, es237.2.2.2.2.2.2.1, es237.2.2.2.2.2.2.2.1, es237.2.2.2.2.2.2.2.2.1, es237.2.2.2.2.2.2.2.2.2.1, es237.2.2.2.2.2.2.2.2.2.2.1, es237.2.2.2.2.2.2.2.2.2.2.2.1, es237.2.2.2.2.2.2.2.2.2.2.2.2.1, es237.2.2.2.2.2.2.2.2.2.2.2.2.2.1, rfl⟩ (fun s239 Is239 Fs239 (es239 : s239 98 15 = t0 98 15 ∧ s239 98 16 = t0 98 16 ∧ s239 98 17 = t0 98 17 ∧ s239 98 18 = t0 98 18 ∧ s239 98 13 = 3 ∧ s239 98 14 = (t0 98 16) ∧ s239 98 5 = t0 98 5 ∧ s239 98 6 = t0 98 6 ∧ s239 98 7 = t0 98 7 ∧ s239 98 8 = t0 98 8 ∧ s239 98 9 = t0 98 9 ∧ s239 101 18 = t0 101 18 ∧ s239 101 25 = t0 101 25 ∧ s239 101 43 = t0 101 43 ∧ s239 = h_up s237 98 14 (t0 98 16)) => ?_))
                    refine h_vret rfl rfl (h_Kn ?_)
                    refine h_goto (pc' := 0) rfl rfl ?_
                    refine d_toL (g_inj ns) hlw205 hRw205 (fun lvw240 memw240 hlw240 hRw240 => ?_)
                    show h_T g_P (g_Y ns) 62 30 [(1, .int z204), (0, .ref 63)] [] s203 _
                    exact h_wk [(0, .ref 63), (1, .int z204)] ⟨rfl, rfl, trivial⟩ (ih _ _ Is203 Is239 Fs203 Fs239 z204 _ hz204  (by omega) (by omega) (by omega) (by omega) (by omega) (by omega) (by omega) (by omega) (by omega) (fun h => absurd h (by omega)) (Or.inl ⟨by omega, by omega, by omega, by omega⟩) (by omega) _ _ (h_al_ok ⟨rfl, trivial⟩ hlw240) hRw240)
              · clear hz210
                refine h_aload_n (pc' := 28) rfl rfl rfl ?_
                refine h_iconst (pc' := 29) (x := (Int32.ofInt 5)) rfl rfl rfl ?_
                refine h_call (sp := false) (pc' := 32) (M := [(0, .ref 98), (1, .int (Int32.ofInt 5))]) rfl rfl rfl rfl rfl rfl rfl rfl ?_
                refine h_aload_n (pc' := 1) rfl rfl rfl ?_
                refine h_getI (pc' := 4) (v := t0 98 13) rfl rfl rfl rfl rfl rfl (fun z241 hz241 => ?_)
                refine h_zne (tg := 20) (pc' := 7) rfl rfl rfl hz241 (fun c242 => absurd c242 (by omega)) (fun c242 => ?_)
                clear hz241
                refine h_aload_n (pc' := 8) rfl rfl rfl ?_
                refine h_iload_n (pc' := 9) rfl rfl rfl ?_
                refine h_put (pc' := 12) rfl rfl rfl rfl rfl rfl ci_5 rfl (h_fgt (E := fun s => s 98 15 = t0 98 15 ∧ s 98 16 = t0 98 16 ∧ s 98 17 = t0 98 17 ∧ s 98 18 = t0 98 18 ∧ s 98 13 = 5 ∧ s 98 14 = t0 98 14 ∧ s 98 5 = t0 98 5 ∧ s 98 6 = t0 98 6 ∧ s 98 7 = t0 98 7 ∧ s 98 8 = t0 98 8 ∧ s 98 9 = t0 98 9 ∧ s 101 18 = t0 101 18 ∧ s 101 25 = t0 101 25 ∧ s 101 43 = t0 101 43 ∧ s = h_up t0 98 13 5) _ (if_98_13 J0 (by omega)) (H0_.up rfl) ⟨rfl, rfl, rfl, rfl, rfl, rfl, rfl, rfl, rfl, rfl, rfl, rfl, rfl, rfl, rfl⟩ (fun s243 Is243 Fs243 (es243 : s243 98 15 = t0 98 15 ∧ s243 98 16 = t0 98 16 ∧ s243 98 17 = t0 98 17 ∧ s243 98 18 = t0 98 18 ∧ s243 98 13 = 5 ∧ s243 98 14 = t0 98 14 ∧ s243 98 5 = t0 98 5 ∧ s243 98 6 = t0 98 6 ∧ s243 98 7 = t0 98 7 ∧ s243 98 8 = t0 98 8 ∧ s243 98 9 = t0 98 9 ∧ s243 101 18 = t0 101 18 ∧ s243 101 25 = t0 101 25 ∧ s243 101 43 = t0 101 43 ∧ s243 = h_up t0 98 13 5) => ?_))
                refine h_aload_n (pc' := 13) rfl rfl rfl ?_
                refine h_aload_n (pc' := 14) rfl rfl rfl ?_
                refine h_getI (pc' := 17) (v := t0 98 16) rfl rfl rfl rfl rfl es243.2.1 (fun z244 hz244 => ?_)
                have tz244 := tf_98_16 J0
                refine h_put (pc' := 20) rfl rfl rfl rfl rfl rfl hz244 rfl (h_fgt (E := fun s => s 98 15 = t0 98 15 ∧ s 98 16 = t0 98 16 ∧ s 98 17 = t0 98 17 ∧ s 98 18 = t0 98 18 ∧ s 98 13 = 5 ∧ s 98 14 = (t0 98 16) ∧ s 98 5 = t0 98 5 ∧ s 98 6 = t0 98 6 ∧ s 98 7 = t0 98 7 ∧ s 98 8 = t0 98 8 ∧ s 98 9 = t0 98 9 ∧ s 101 18 = t0 101 18 ∧ s 101 25 = t0 101 25 ∧ s 101 43 = t0 101 43 ∧ s = h_up s243 98 14 (t0 98 16)) _ (if_98_14 Is243 (h_rgv hz244)) (Fs243.up rfl) ⟨es243.1, es243.2.1, es243.2.2.1, es243.2.2.2.1, es243.2.2.2.2.1, rfl, es243.2.2.2.2.2.2.1, es243.2.2.2.2.2.2.2.1, es243.2.2.2.2.2.2.2.2.1, es243.2.2.2.2.2.2.2.2.2.1, es243.2.2.2.2.2.2.2.2.2.2.1, es243.2.2.2.2.2.2.2.2.2.2.2.1, es243.2.2.2.2.2.2.2.2.2.2.2.2.1, es243.2.2.2.2.2.2.2.2.2.2.2.2.2.1, rfl⟩ (fun s245 Is245 Fs245 (es245 : s245 98 15 = t0 98 15 ∧ s245 98 16 = t0 98 16 ∧ s245 98 17 = t0 98 17 ∧ s245 98 18 = t0 98 18 ∧ s245 98 13 = 5 ∧ s245 98 14 = (t0 98 16) ∧ s245 98 5 = t0 98 5 ∧ s245 98 6 = t0 98 6 ∧ s245 98 7 = t0 98 7 ∧ s245 98 8 = t0 98 8 ∧ s245 98 9 = t0 98 9 ∧ s245 101 18 = t0 101 18 ∧ s245 101 25 = t0 101 25 ∧ s245 101 43 = t0 101 43 ∧ s245 = h_up s243 98 14 (t0 98 16)) => ?_))
                refine h_vret rfl rfl (h_Kn ?_)
                refine h_goto (pc' := 0) rfl rfl ?_
                refine d_toL (g_inj ns) hlw205 hRw205 (fun lvw246 memw246 hlw246 hRw246 => ?_)
                show h_T g_P (g_Y ns) 62 30 [(1, .int z204), (0, .ref 63)] [] s203 _
                exact h_wk [(0, .ref 63), (1, .int z204)] ⟨rfl, rfl, trivial⟩ (ih _ _ Is203 Is245 Fs203 Fs245 z204 _ hz204  (by omega) (by omega) (by omega) (by omega) (by omega) (by omega) (by omega) (by omega) (by omega) (fun h => absurd h (by omega)) (Or.inl ⟨by omega, by omega, by omega, by omega⟩) (by omega) _ _ (h_al_ok ⟨rfl, trivial⟩ hlw246) hRw246)
        · clear hz96
          refine h_aload_n (pc' := 21) rfl rfl rfl ?_
          refine h_iconst (pc' := 22) (x := (Int32.ofInt 5)) rfl rfl rfl ?_
          refine h_aload_n (pc' := 23) rfl rfl rfl ?_
          refine h_getR (pc' := 26) rfl rfl rfl rfl rfl ?_
          refine h_getI (pc' := 29) (v := s0 64 4) rfl rfl rfl rfl rfl rfl (fun z247 hz247 => ?_)
          have tz247 := tf_64_4 I0
          refine h_call (sp := false) (pc' := 32) (M := [(0, .ref 63), (1, .int (Int32.ofInt 5)), (2, .int z247)]) rfl rfl rfl rfl rfl rfl rfl rfl ?_
          refine h_aload_n (pc' := 1) rfl rfl rfl ?_
          refine h_getI (pc' := 4) (v := s0 63 2) rfl rfl rfl rfl rfl rfl (fun z248 hz248 => ?_)
          refine h_zne (tg := 17) (pc' := 7) rfl rfl rfl hz248 (fun c249 => absurd c249 (by omega)) (fun c249 => ?_)
          clear hz248
          refine h_aload_n (pc' := 8) rfl rfl rfl ?_
          refine h_iload_n (pc' := 9) rfl rfl rfl ?_
          refine h_put (pc' := 12) rfl rfl rfl rfl rfl rfl ci_5 rfl (h_fgt (E := fun s => s 64 2 = s0 64 2 ∧ s 64 4 = s0 64 4 ∧ s 64 3 = s0 64 3 ∧ s 64 5 = s0 64 5 ∧ s 63 2 = 5 ∧ s 63 3 = s0 63 3 ∧ s 64 1 = s0 64 1 ∧ s 66 8 = s0 66 8 ∧ s 66 9 = s0 66 9 ∧ s 66 10 = s0 66 10 ∧ s 69 2 = s0 69 2 ∧ s 72 2 = s0 72 2 ∧ s 63 5 = s0 63 5 ∧ s = h_up s0 63 2 5) _ (if_63_2 I0 (by omega)) (F0_.up rfl) ⟨rfl, rfl, rfl, rfl, rfl, rfl, rfl, rfl, rfl, rfl, rfl, rfl, rfl, rfl⟩ (fun s250 Is250 Fs250 (es250 : s250 64 2 = s0 64 2 ∧ s250 64 4 = s0 64 4 ∧ s250 64 3 = s0 64 3 ∧ s250 64 5 = s0 64 5 ∧ s250 63 2 = 5 ∧ s250 63 3 = s0 63 3 ∧ s250 64 1 = s0 64 1 ∧ s250 66 8 = s0 66 8 ∧ s250 66 9 = s0 66 9 ∧ s250 66 10 = s0 66 10 ∧ s250 69 2 = s0 69 2 ∧ s250 72 2 = s0 72 2 ∧ s250 63 5 = s0 63 5 ∧ s250 = h_up s0 63 2 5) => ?_))
          refine h_aload_n (pc' := 13) rfl rfl rfl ?_
          refine h_iload_n (pc' := 14) rfl rfl rfl ?_
          refine h_put (pc' := 17) rfl rfl rfl rfl rfl rfl hz247 rfl (h_fgt (E := fun s => s 64 2 = s0 64 2 ∧ s 64 4 = s0 64 4 ∧ s 64 3 = s0 64 3 ∧ s 64 5 = s0 64 5 ∧ s 63 2 = 5 ∧ s 63 3 = (s0 64 4) ∧ s 64 1 = s0 64 1 ∧ s 66 8 = s0 66 8 ∧ s 66 9 = s0 66 9 ∧ s 66 10 = s0 66 10 ∧ s 69 2 = s0 69 2 ∧ s 72 2 = s0 72 2 ∧ s 63 5 = s0 63 5 ∧ s = h_up s250 63 3 (s0 64 4)) _ (if_63_3 Is250 (h_rgv hz247)) (Fs250.up rfl) ⟨es250.1, es250.2.1, es250.2.2.1, es250.2.2.2.1, es250.2.2.2.2.1, rfl, es250.2.2.2.2.2.2.1, es250.2.2.2.2.2.2.2.1, es250.2.2.2.2.2.2.2.2.1, es250.2.2.2.2.2.2.2.2.2.1, es250.2.2.2.2.2.2.2.2.2.2.1, es250.2.2.2.2.2.2.2.2.2.2.2.1, es250.2.2.2.2.2.2.2.2.2.2.2.2.1, rfl⟩ (fun s251 Is251 Fs251 (es251 : s251 64 2 = s0 64 2 ∧ s251 64 4 = s0 64 4 ∧ s251 64 3 = s0 64 3 ∧ s251 64 5 = s0 64 5 ∧ s251 63 2 = 5 ∧ s251 63 3 = (s0 64 4) ∧ s251 64 1 = s0 64 1 ∧ s251 66 8 = s0 66 8 ∧ s251 66 9 = s0 66 9 ∧ s251 66 10 = s0 66 10 ∧ s251 69 2 = s0 69 2 ∧ s251 72 2 = s0 72 2 ∧ s251 63 5 = s0 63 5 ∧ s251 = h_up s250 63 3 (s0 64 4)) => ?_))
          refine h_vret rfl rfl (h_Kn ?_)
          refine h_goto (pc' := 79) rfl rfl ?_
          refine h_vret rfl rfl (d_retn hlv94 ?_)
          clear hz95
          refine h_iinc (pc' := 50) (M := fun z252 => [(1, .int z252), (0, .ref 63)]) rfl rfl rfl rfl hx1 ci_1 rfl (by omega) (by omega) (fun _ => rfl) (fun z252 hz252 => ?_)
          refine h_goto (pc' := 30) rfl rfl ?_
          refine d_toM (g_inj ns) hl2 hR2 (fun lvw253 memw253 hlw253 hRw253 => ?_)
          show h_T g_P (g_Y ns) 152 0 [(0, .ref 98)] [] t0 _
          refine h_aload_n (pc' := 1) rfl rfl rfl ?_
          refine h_getI (pc' := 4) (v := t0 98 13) rfl rfl rfl rfl rfl rfl (fun z254 hz254 => ?_)
          have tz254 := tf_98_13 J0
          refine h_zne (tg := 167) (pc' := 7) rfl rfl rfl hz254 (fun c255 => absurd c255 (by omega)) (fun c255 => ?_)
          clear hz254
          refine h_aload_n (pc' := 8) rfl rfl rfl ?_
          refine h_getI (pc' := 11) (v := t0 98 17) rfl rfl rfl rfl rfl rfl (fun z256 hz256 => ?_)
          have tz256 := tf_98_17 J0
          refine h_iconst (pc' := 12) (x := (Int32.ofInt 2)) rfl rfl rfl ?_
          refine h_cne (tg := 167) (pc' := 15) rfl rfl rfl hz256 ci_2 (fun c257 => absurd c257 (by omega)) (fun c257 => ?_)
          clear hz256
          refine h_aload_n (pc' := 16) rfl rfl rfl ?_
          refine h_getR (pc' := 19) rfl rfl rfl rfl rfl ?_
          refine h_bipush (pc' := 21) (x := (Int32.ofInt 43)) rfl rfl cb_43 ?_
          refine h_iald (pc' := 22) (v := t0 101 43) rfl rfl rfl ci_43 (by omega) (by omega) rfl (fun z258 hz258 => ?_)
          have tz258 := ty_101_10 J0 43 (by omega)
          refine h_bipush (pc' := 24) (x := (Int32.ofInt 8)) rfl rfl cb_8 ?_
          refine h_cne (tg := 35) (pc' := 27) rfl rfl rfl hz258 ci_8 (fun c259 => ?_) (fun c259 => ?_)
          · clear hz258
            refine h_aload_n (pc' := 36) rfl rfl rfl ?_
            refine h_getI (pc' := 39) (v := t0 98 18) rfl rfl rfl rfl rfl rfl (fun z260 hz260 => ?_)
            have tz260 := tf_98_18 J0
            refine h_bipush (pc' := 41) (x := (Int32.ofInt 10)) rfl rfl cb_10 ?_
            refine h_idiv (pc' := 42) rfl rfl hz260 ci_10 (by omega) (by omega) (fun z261 hz261 => ?_)
            clear hz260
            refine h_bipush (pc' := 44) (x := (Int32.ofInt 6)) rfl rfl cb_6 ?_
            refine h_cge (tg := 58) (pc' := 47) rfl rfl rfl hz261 ci_6 (fun c262 => ?_) (fun c262 => ?_)
            · clear hz261
              refine h_aload_n (pc' := 59) rfl rfl rfl ?_
              refine h_iconst (pc' := 60) (x := (Int32.ofInt 3)) rfl rfl rfl ?_
              refine h_call (sp := false) (pc' := 63) (M := [(0, .ref 98), (1, .int (Int32.ofInt 3))]) rfl rfl rfl rfl rfl rfl rfl rfl ?_
              refine h_aload_n (pc' := 1) rfl rfl rfl ?_
              refine h_getI (pc' := 4) (v := t0 98 13) rfl rfl rfl rfl rfl rfl (fun z263 hz263 => ?_)
              refine h_zne (tg := 20) (pc' := 7) rfl rfl rfl hz263 (fun c264 => absurd c264 (by omega)) (fun c264 => ?_)
              clear hz263
              refine h_aload_n (pc' := 8) rfl rfl rfl ?_
              refine h_iload_n (pc' := 9) rfl rfl rfl ?_
              refine h_put (pc' := 12) rfl rfl rfl rfl rfl rfl ci_3 rfl (h_fgt (E := fun s => s 98 15 = t0 98 15 ∧ s 98 16 = t0 98 16 ∧ s 98 17 = t0 98 17 ∧ s 98 18 = t0 98 18 ∧ s 98 13 = 3 ∧ s 98 14 = t0 98 14 ∧ s 98 5 = t0 98 5 ∧ s 98 6 = t0 98 6 ∧ s 98 7 = t0 98 7 ∧ s 98 8 = t0 98 8 ∧ s 98 9 = t0 98 9 ∧ s 101 18 = t0 101 18 ∧ s 101 25 = t0 101 25 ∧ s 101 43 = t0 101 43 ∧ s = h_up t0 98 13 3) _ (if_98_13 J0 (by omega)) (H0_.up rfl) ⟨rfl, rfl, rfl, rfl, rfl, rfl, rfl, rfl, rfl, rfl, rfl, rfl, rfl, rfl, rfl⟩ (fun s265 Is265 Fs265 (es265 : s265 98 15 = t0 98 15 ∧ s265 98 16 = t0 98 16 ∧ s265 98 17 = t0 98 17 ∧ s265 98 18 = t0 98 18 ∧ s265 98 13 = 3 ∧ s265 98 14 = t0 98 14 ∧ s265 98 5 = t0 98 5 ∧ s265 98 6 = t0 98 6 ∧ s265 98 7 = t0 98 7 ∧ s265 98 8 = t0 98 8 ∧ s265 98 9 = t0 98 9 ∧ s265 101 18 = t0 101 18 ∧ s265 101 25 = t0 101 25 ∧ s265 101 43 = t0 101 43 ∧ s265 = h_up t0 98 13 3) => ?_))
              refine h_aload_n (pc' := 13) rfl rfl rfl ?_
              refine h_aload_n (pc' := 14) rfl rfl rfl ?_
              refine h_getI (pc' := 17) (v := t0 98 16) rfl rfl rfl rfl rfl es265.2.1 (fun z266 hz266 => ?_)
              have tz266 := tf_98_16 J0
              refine h_put (pc' := 20) rfl rfl rfl rfl rfl rfl hz266 rfl (h_fgt (E := fun s => s 98 15 = t0 98 15 ∧ s 98 16 = t0 98 16 ∧ s 98 17 = t0 98 17 ∧ s 98 18 = t0 98 18 ∧ s 98 13 = 3 ∧ s 98 14 = (t0 98 16) ∧ s 98 5 = t0 98 5 ∧ s 98 6 = t0 98 6 ∧ s 98 7 = t0 98 7 ∧ s 98 8 = t0 98 8 ∧ s 98 9 = t0 98 9 ∧ s 101 18 = t0 101 18 ∧ s 101 25 = t0 101 25 ∧ s 101 43 = t0 101 43 ∧ s = h_up s265 98 14 (t0 98 16)) _ (if_98_14 Is265 (h_rgv hz266)) (Fs265.up rfl) ⟨es265.1, es265.2.1, es265.2.2.1, es265.2.2.2.1, es265.2.2.2.2.1, rfl, es265.2.2.2.2.2.2.1, es265.2.2.2.2.2.2.2.1, es265.2.2.2.2.2.2.2.2.1, es265.2.2.2.2.2.2.2.2.2.1, es265.2.2.2.2.2.2.2.2.2.2.1, es265.2.2.2.2.2.2.2.2.2.2.2.1, es265.2.2.2.2.2.2.2.2.2.2.2.2.1, es265.2.2.2.2.2.2.2.2.2.2.2.2.2.1, rfl⟩ (fun s267 Is267 Fs267 (es267 : s267 98 15 = t0 98 15 ∧ s267 98 16 = t0 98 16 ∧ s267 98 17 = t0 98 17 ∧ s267 98 18 = t0 98 18 ∧ s267 98 13 = 3 ∧ s267 98 14 = (t0 98 16) ∧ s267 98 5 = t0 98 5 ∧ s267 98 6 = t0 98 6 ∧ s267 98 7 = t0 98 7 ∧ s267 98 8 = t0 98 8 ∧ s267 98 9 = t0 98 9 ∧ s267 101 18 = t0 101 18 ∧ s267 101 25 = t0 101 25 ∧ s267 101 43 = t0 101 43 ∧ s267 = h_up s265 98 14 (t0 98 16)) => ?_))
              refine h_vret rfl rfl (h_Kn ?_)
              refine h_goto (pc' := 0) rfl rfl ?_
              refine d_toL (g_inj ns) hlw253 hRw253 (fun lvw268 memw268 hlw268 hRw268 => ?_)
              show h_T g_P (g_Y ns) 62 30 [(1, .int z252), (0, .ref 63)] [] s251 _
              exact h_wk [(0, .ref 63), (1, .int z252)] ⟨rfl, rfl, trivial⟩ (ih _ _ Is251 Is267 Fs251 Fs267 z252 _ hz252  (by omega) (by omega) (by omega) (by omega) (by omega) (by omega) (by omega) (by omega) (by omega) (fun h => absurd h (by omega)) (Or.inl ⟨by omega, by omega, by omega, by omega⟩) (by omega) _ _ (h_al_ok ⟨rfl, trivial⟩ hlw268) hRw268)
            · clear hz261
              refine h_aload_n (pc' := 48) rfl rfl rfl ?_
              refine h_getI (pc' := 51) (v := t0 98 18) rfl rfl rfl rfl rfl rfl (fun z269 hz269 => ?_)
              refine h_bipush (pc' := 53) (x := (Int32.ofInt 10)) rfl rfl cb_10 ?_
              refine h_irem (pc' := 54) rfl rfl hz269 ci_10 (by omega) (by omega) (fun z270 hz270 => ?_)
              clear hz269
              refine h_iconst (pc' := 55) (x := (Int32.ofInt 3)) rfl rfl rfl ?_
              refine h_clt (tg := 66) (pc' := 58) rfl rfl rfl hz270 ci_3 (fun c271 => ?_) (fun c271 => ?_)
              · clear hz270
                have gH272 : 0 ≤ t0 98 18 ∧ t0 98 18 ≤ 99 := by have ga := tf_98_18 J0; omega
                have oH272 : t0 98 8 = t0 98 8 := rfl
                have vH272 : t0 98 18 = t0 98 18 := rfl
                have uH272 := tf_98_8 J0
                refine lm_ho _ J0 (by omega) (fun H272 hH272 => (h_fgt (E := fun s => s 98 15 = t0 98 15 ∧ s 98 16 = t0 98 16 ∧ s 98 17 = t0 98 17 ∧ s 98 18 = t0 98 18 ∧ s 98 13 = t0 98 13 ∧ s 98 14 = t0 98 14 ∧ s 98 5 = t0 98 5 ∧ s 98 6 = t0 98 6 ∧ s 98 7 = t0 98 7 ∧ s 98 8 = H272 ∧ s 98 9 = t0 98 9 ∧ s 101 18 = t0 101 18 ∧ s 101 25 = t0 101 25 ∧ s 101 43 = t0 101 43 ∧ s = h_up t0 98 8 H272) _ (if_98_8 J0 (by omega)) (H0_.up rfl) ⟨rfl, rfl, rfl, rfl, rfl, rfl, rfl, rfl, rfl, rfl, rfl, rfl, rfl, rfl, rfl⟩ (fun s273 Is273 Fs273 (es273 : s273 98 15 = t0 98 15 ∧ s273 98 16 = t0 98 16 ∧ s273 98 17 = t0 98 17 ∧ s273 98 18 = t0 98 18 ∧ s273 98 13 = t0 98 13 ∧ s273 98 14 = t0 98 14 ∧ s273 98 5 = t0 98 5 ∧ s273 98 6 = t0 98 6 ∧ s273 98 7 = t0 98 7 ∧ s273 98 8 = H272 ∧ s273 98 9 = t0 98 9 ∧ s273 101 18 = t0 101 18 ∧ s273 101 25 = t0 101 25 ∧ s273 101 43 = t0 101 43 ∧ s273 = h_up t0 98 8 H272) => ?_)))
                have gH274 : 0 ≤ s273 98 18 ∧ s273 98 18 ≤ 99 := by have ga := es273.2.2.2.1; omega
                have oH274 : s273 98 9 = t0 98 9 := es273.2.2.2.2.2.2.2.2.2.2.1
                have vH274 : s273 98 18 = t0 98 18 := es273.2.2.2.1
                have uH274 := tf_98_9 Is273
                refine lm_hg _ Is273 (by omega) (fun H274 hH274 => (h_fgt (E := fun s => s 98 15 = t0 98 15 ∧ s 98 16 = t0 98 16 ∧ s 98 17 = t0 98 17 ∧ s 98 18 = t0 98 18 ∧ s 98 13 = t0 98 13 ∧ s 98 14 = t0 98 14 ∧ s 98 5 = t0 98 5 ∧ s 98 6 = t0 98 6 ∧ s 98 7 = t0 98 7 ∧ s 98 8 = H272 ∧ s 98 9 = H274 ∧ s 101 18 = t0 101 18 ∧ s 101 25 = t0 101 25 ∧ s 101 43 = t0 101 43 ∧ s = h_up s273 98 9 H274) _ (if_98_9 Is273 (by omega)) (Fs273.up rfl) ⟨es273.1, es273.2.1, es273.2.2.1, es273.2.2.2.1, es273.2.2.2.2.1, es273.2.2.2.2.2.1, es273.2.2.2.2.2.2.1, es273.2.2.2.2.2.2.2.1, es273.2.2.2.2.2.2.2.2.1, es273.2.2.2.2.2.2.2.2.2.1, rfl, es273.2.2.2.2.2.2.2.2.2.2.2.1, es273.2.2.2.2.2.2.2.2.2.2.2.2.1, es273.2.2.2.2.2.2.2.2.2.2.2.2.2.1, rfl⟩ (fun s275 Is275 Fs275 (es275 : s275 98 15 = t0 98 15 ∧ s275 98 16 = t0 98 16 ∧ s275 98 17 = t0 98 17 ∧ s275 98 18 = t0 98 18 ∧ s275 98 13 = t0 98 13 ∧ s275 98 14 = t0 98 14 ∧ s275 98 5 = t0 98 5 ∧ s275 98 6 = t0 98 6 ∧ s275 98 7 = t0 98 7 ∧ s275 98 8 = H272 ∧ s275 98 9 = H274 ∧ s275 101 18 = t0 101 18 ∧ s275 101 25 = t0 101 25 ∧ s275 101 43 = t0 101 43 ∧ s275 = h_up s273 98 9 H274) => ?_)))
                refine h_aload_n (pc' := 131) rfl rfl rfl ?_
                refine h_getR (pc' := 134) rfl rfl rfl rfl rfl ?_
                refine h_bipush (pc' := 136) (x := (Int32.ofInt 35)) rfl rfl cb_35 ?_
                refine h_aload_n (pc' := 137) rfl rfl rfl ?_
                refine h_getR (pc' := 140) rfl rfl rfl rfl rfl ?_
                refine h_bipush (pc' := 142) (x := (Int32.ofInt 43)) rfl rfl cb_43 ?_
                refine h_iald (pc' := 143) (v := t0 101 43) rfl rfl rfl ci_43 (by omega) (by omega) es275.2.2.2.2.2.2.2.2.2.2.2.2.2.1 (fun z276 hz276 => ?_)
                refine h_iadd (pc' := 144) rfl rfl ci_35 hz276 rfl (by omega) (by omega) (fun z277 hz277 => ?_)
                clear hz276
                refine h_aload_n (pc' := 145) rfl rfl rfl ?_
                refine h_getI (pc' := 148) (v := t0 98 18) rfl rfl rfl rfl rfl es275.2.2.2.1 (fun z278 hz278 => ?_)
                refine h_iast (pc' := 149) rfl rfl rfl rfl hz277 (by omega) (by omega) hz278 (h_fgt (E := fun s => s 98 15 = t0 98 15 ∧ s 98 16 = t0 98 16 ∧ s 98 17 = t0 98 17 ∧ s 98 18 = t0 98 18 ∧ s 98 13 = t0 98 13 ∧ s 98 14 = t0 98 14 ∧ s 98 5 = t0 98 5 ∧ s 98 6 = t0 98 6 ∧ s 98 7 = t0 98 7 ∧ s 98 8 = H272 ∧ s 98 9 = H274 ∧ s 101 18 = t0 101 18 ∧ s 101 25 = t0 101 25 ∧ s 101 43 = t0 101 43 ∧ s = h_up s275 101 (35 + (t0 101 43)) (t0 98 18)) _ (ip_101_9 Is275 (by omega) (by omega)) (Fs275.up rfl) ⟨es275.1, es275.2.1, es275.2.2.1, es275.2.2.2.1, es275.2.2.2.2.1, es275.2.2.2.2.2.1, es275.2.2.2.2.2.2.1, es275.2.2.2.2.2.2.2.1, es275.2.2.2.2.2.2.2.2.1, es275.2.2.2.2.2.2.2.2.2.1, es275.2.2.2.2.2.2.2.2.2.2.1, h_up_n2 (by omega) es275.2.2.2.2.2.2.2.2.2.2.2.1, h_up_n2 (by omega) es275.2.2.2.2.2.2.2.2.2.2.2.2.1, h_up_n2 (by omega) es275.2.2.2.2.2.2.2.2.2.2.2.2.2.1, rfl⟩ (fun s279 Is279 Fs279 (es279 : s279 98 15 = t0 98 15 ∧ s279 98 16 = t0 98 16 ∧ s279 98 17 = t0 98 17 ∧ s279 98 18 = t0 98 18 ∧ s279 98 13 = t0 98 13 ∧ s279 98 14 = t0 98 14 ∧ s279 98 5 = t0 98 5 ∧ s279 98 6 = t0 98 6 ∧ s279 98 7 = t0 98 7 ∧ s279 98 8 = H272 ∧ s279 98 9 = H274 ∧ s279 101 18 = t0 101 18 ∧ s279 101 25 = t0 101 25 ∧ s279 101 43 = t0 101 43 ∧ s279 = h_up s275 101 (35 + (t0 101 43)) (t0 98 18)) => ?_))
                clear hz277 hz278
                refine h_aload_n (pc' := 150) rfl rfl rfl ?_
                refine h_getR (pc' := 153) rfl rfl rfl rfl rfl ?_
                refine h_bipush (pc' := 155) (x := (Int32.ofInt 43)) rfl rfl cb_43 ?_
                refine h_dup2 (pc' := 156) rfl rfl rfl ?_
                refine h_iald (pc' := 157) (v := t0 101 43) rfl rfl rfl ci_43 (by omega) (by omega) es279.2.2.2.2.2.2.2.2.2.2.2.2.2.1 (fun z280 hz280 => ?_)
                refine h_iconst (pc' := 158) (x := (Int32.ofInt 1)) rfl rfl rfl ?_
                refine h_iadd (pc' := 159) rfl rfl hz280 ci_1 rfl (by omega) (by omega) (fun z281 hz281 => ?_)
                clear hz280
                refine h_iast (pc' := 160) rfl rfl rfl rfl ci_43 (by omega) (by omega) hz281 (h_fgt (E := fun s => s 98 15 = t0 98 15 ∧ s 98 16 = t0 98 16 ∧ s 98 17 = t0 98 17 ∧ s 98 18 = t0 98 18 ∧ s 98 13 = t0 98 13 ∧ s 98 14 = t0 98 14 ∧ s 98 5 = t0 98 5 ∧ s 98 6 = t0 98 6 ∧ s 98 7 = t0 98 7 ∧ s 98 8 = H272 ∧ s 98 9 = H274 ∧ s 101 18 = t0 101 18 ∧ s 101 25 = t0 101 25 ∧ s 101 43 = ((t0 101 43) + 1) ∧ s = h_up s279 101 43 ((t0 101 43) + 1)) _ (ip_101_10 Is279 (by omega) (by omega)) (Fs279.up rfl) ⟨es279.1, es279.2.1, es279.2.2.1, es279.2.2.2.1, es279.2.2.2.2.1, es279.2.2.2.2.2.1, es279.2.2.2.2.2.2.1, es279.2.2.2.2.2.2.2.1, es279.2.2.2.2.2.2.2.2.1, es279.2.2.2.2.2.2.2.2.2.1, es279.2.2.2.2.2.2.2.2.2.2.1, es279.2.2.2.2.2.2.2.2.2.2.2.1, es279.2.2.2.2.2.2.2.2.2.2.2.2.1, rfl, rfl⟩ (fun s282 Is282 Fs282 (es282 : s282 98 15 = t0 98 15 ∧ s282 98 16 = t0 98 16 ∧ s282 98 17 = t0 98 17 ∧ s282 98 18 = t0 98 18 ∧ s282 98 13 = t0 98 13 ∧ s282 98 14 = t0 98 14 ∧ s282 98 5 = t0 98 5 ∧ s282 98 6 = t0 98 6 ∧ s282 98 7 = t0 98 7 ∧ s282 98 8 = H272 ∧ s282 98 9 = H274 ∧ s282 101 18 = t0 101 18 ∧ s282 101 25 = t0 101 25 ∧ s282 101 43 = ((t0 101 43) + 1) ∧ s282 = h_up s279 101 43 ((t0 101 43) + 1)) => ?_))
                refine h_aload_n (pc' := 161) rfl rfl rfl ?_
                exfalso
                omega
              · clear hz270
                refine h_aload_n (pc' := 59) rfl rfl rfl ?_
                refine h_iconst (pc' := 60) (x := (Int32.ofInt 3)) rfl rfl rfl ?_
                refine h_call (sp := false) (pc' := 63) (M := [(0, .ref 98), (1, .int (Int32.ofInt 3))]) rfl rfl rfl rfl rfl rfl rfl rfl ?_
                refine h_aload_n (pc' := 1) rfl rfl rfl ?_
                refine h_getI (pc' := 4) (v := t0 98 13) rfl rfl rfl rfl rfl rfl (fun z283 hz283 => ?_)
                refine h_zne (tg := 20) (pc' := 7) rfl rfl rfl hz283 (fun c284 => absurd c284 (by omega)) (fun c284 => ?_)
                clear hz283
                refine h_aload_n (pc' := 8) rfl rfl rfl ?_
                refine h_iload_n (pc' := 9) rfl rfl rfl ?_
                refine h_put (pc' := 12) rfl rfl rfl rfl rfl rfl ci_3 rfl (h_fgt (E := fun s => s 98 15 = t0 98 15 ∧ s 98 16 = t0 98 16 ∧ s 98 17 = t0 98 17 ∧ s 98 18 = t0 98 18 ∧ s 98 13 = 3 ∧ s 98 14 = t0 98 14 ∧ s 98 5 = t0 98 5 ∧ s 98 6 = t0 98 6 ∧ s 98 7 = t0 98 7 ∧ s 98 8 = t0 98 8 ∧ s 98 9 = t0 98 9 ∧ s 101 18 = t0 101 18 ∧ s 101 25 = t0 101 25 ∧ s 101 43 = t0 101 43 ∧ s = h_up t0 98 13 3) _ (if_98_13 J0 (by omega)) (H0_.up rfl) ⟨rfl, rfl, rfl, rfl, rfl, rfl, rfl, rfl, rfl, rfl, rfl, rfl, rfl, rfl, rfl⟩ (fun s285 Is285 Fs285 (es285 : s285 98 15 = t0 98 15 ∧ s285 98 16 = t0 98 16 ∧ s285 98 17 = t0 98 17 ∧ s285 98 18 = t0 98 18 ∧ s285 98 13 = 3 ∧ s285 98 14 = t0 98 14 ∧ s285 98 5 = t0 98 5 ∧ s285 98 6 = t0 98 6 ∧ s285 98 7 = t0 98 7 ∧ s285 98 8 = t0 98 8 ∧ s285 98 9 = t0 98 9 ∧ s285 101 18 = t0 101 18 ∧ s285 101 25 = t0 101 25 ∧ s285 101 43 = t0 101 43 ∧ s285 = h_up t0 98 13 3) => ?_))
                refine h_aload_n (pc' := 13) rfl rfl rfl ?_
                refine h_aload_n (pc' := 14) rfl rfl rfl ?_
                refine h_getI (pc' := 17) (v := t0 98 16) rfl rfl rfl rfl rfl es285.2.1 (fun z286 hz286 => ?_)
                have tz286 := tf_98_16 J0
                refine h_put (pc' := 20) rfl rfl rfl rfl rfl rfl hz286 rfl (h_fgt (E := fun s => s 98 15 = t0 98 15 ∧ s 98 16 = t0 98 16 ∧ s 98 17 = t0 98 17 ∧ s 98 18 = t0 98 18 ∧ s 98 13 = 3 ∧ s 98 14 = (t0 98 16) ∧ s 98 5 = t0 98 5 ∧ s 98 6 = t0 98 6 ∧ s 98 7 = t0 98 7 ∧ s 98 8 = t0 98 8 ∧ s 98 9 = t0 98 9 ∧ s 101 18 = t0 101 18 ∧ s 101 25 = t0 101 25 ∧ s 101 43 = t0 101 43 ∧ s = h_up s285 98 14 (t0 98 16)) _ (if_98_14 Is285 (h_rgv hz286)) (Fs285.up rfl) ⟨es285.1, es285.2.1, es285.2.2.1, es285.2.2.2.1, es285.2.2.2.2.1, rfl, es285.2.2.2.2.2.2.1, es285.2.2.2.2.2.2.2.1, es285.2.2.2.2.2.2.2.2.1, es285.2.2.2.2.2.2.2.2.2.1, es285.2.2.2.2.2.2.2.2.2.2.1, es285.2.2.2.2.2.2.2.2.2.2.2.1, es285.2.2.2.2.2.2.2.2.2.2.2.2.1, es285.2.2.2.2.2.2.2.2.2.2.2.2.2.1, rfl⟩ (fun s287 Is287 Fs287 (es287 : s287 98 15 = t0 98 15 ∧ s287 98 16 = t0 98 16 ∧ s287 98 17 = t0 98 17 ∧ s287 98 18 = t0 98 18 ∧ s287 98 13 = 3 ∧ s287 98 14 = (t0 98 16) ∧ s287 98 5 = t0 98 5 ∧ s287 98 6 = t0 98 6 ∧ s287 98 7 = t0 98 7 ∧ s287 98 8 = t0 98 8 ∧ s287 98 9 = t0 98 9 ∧ s287 101 18 = t0 101 18 ∧ s287 101 25 = t0 101 25 ∧ s287 101 43 = t0 101 43 ∧ s287 = h_up s285 98 14 (t0 98 16)) => ?_))
                refine h_vret rfl rfl (h_Kn ?_)
                refine h_goto (pc' := 0) rfl rfl ?_
                refine d_toL (g_inj ns) hlw253 hRw253 (fun lvw288 memw288 hlw288 hRw288 => ?_)
                show h_T g_P (g_Y ns) 62 30 [(1, .int z252), (0, .ref 63)] [] s251 _
                exact h_wk [(0, .ref 63), (1, .int z252)] ⟨rfl, rfl, trivial⟩ (ih _ _ Is251 Is287 Fs251 Fs287 z252 _ hz252  (by omega) (by omega) (by omega) (by omega) (by omega) (by omega) (by omega) (by omega) (by omega) (fun h => absurd h (by omega)) (Or.inl ⟨by omega, by omega, by omega, by omega⟩) (by omega) _ _ (h_al_ok ⟨rfl, trivial⟩ hlw288) hRw288)
          · clear hz258
            refine h_aload_n (pc' := 28) rfl rfl rfl ?_
            refine h_iconst (pc' := 29) (x := (Int32.ofInt 5)) rfl rfl rfl ?_
            refine h_call (sp := false) (pc' := 32) (M := [(0, .ref 98), (1, .int (Int32.ofInt 5))]) rfl rfl rfl rfl rfl rfl rfl rfl ?_
            refine h_aload_n (pc' := 1) rfl rfl rfl ?_
            refine h_getI (pc' := 4) (v := t0 98 13) rfl rfl rfl rfl rfl rfl (fun z289 hz289 => ?_)
            refine h_zne (tg := 20) (pc' := 7) rfl rfl rfl hz289 (fun c290 => absurd c290 (by omega)) (fun c290 => ?_)
            clear hz289
            refine h_aload_n (pc' := 8) rfl rfl rfl ?_
            refine h_iload_n (pc' := 9) rfl rfl rfl ?_
            refine h_put (pc' := 12) rfl rfl rfl rfl rfl rfl ci_5 rfl (h_fgt (E := fun s => s 98 15 = t0 98 15 ∧ s 98 16 = t0 98 16 ∧ s 98 17 = t0 98 17 ∧ s 98 18 = t0 98 18 ∧ s 98 13 = 5 ∧ s 98 14 = t0 98 14 ∧ s 98 5 = t0 98 5 ∧ s 98 6 = t0 98 6 ∧ s 98 7 = t0 98 7 ∧ s 98 8 = t0 98 8 ∧ s 98 9 = t0 98 9 ∧ s 101 18 = t0 101 18 ∧ s 101 25 = t0 101 25 ∧ s 101 43 = t0 101 43 ∧ s = h_up t0 98 13 5) _ (if_98_13 J0 (by omega)) (H0_.up rfl) ⟨rfl, rfl, rfl, rfl, rfl, rfl, rfl, rfl, rfl, rfl, rfl, rfl, rfl, rfl, rfl⟩ (fun s291 Is291 Fs291 (es291 : s291 98 15 = t0 98 15 ∧ s291 98 16 = t0 98 16 ∧ s291 98 17 = t0 98 17 ∧ s291 98 18 = t0 98 18 ∧ s291 98 13 = 5 ∧ s291 98 14 = t0 98 14 ∧ s291 98 5 = t0 98 5 ∧ s291 98 6 = t0 98 6 ∧ s291 98 7 = t0 98 7 ∧ s291 98 8 = t0 98 8 ∧ s291 98 9 = t0 98 9 ∧ s291 101 18 = t0 101 18 ∧ s291 101 25 = t0 101 25 ∧ s291 101 43 = t0 101 43 ∧ s291 = h_up t0 98 13 5) => ?_))
            refine h_aload_n (pc' := 13) rfl rfl rfl ?_
            refine h_aload_n (pc' := 14) rfl rfl rfl ?_
            refine h_getI (pc' := 17) (v := t0 98 16) rfl rfl rfl rfl rfl es291.2.1 (fun z292 hz292 => ?_)
            have tz292 := tf_98_16 J0
            refine h_put (pc' := 20) rfl rfl rfl rfl rfl rfl hz292 rfl (h_fgt (E := fun s => s 98 15 = t0 98 15 ∧ s 98 16 = t0 98 16 ∧ s 98 17 = t0 98 17 ∧ s 98 18 = t0 98 18 ∧ s 98 13 = 5 ∧ s 98 14 = (t0 98 16) ∧ s 98 5 = t0 98 5 ∧ s 98 6 = t0 98 6 ∧ s 98 7 = t0 98 7 ∧ s 98 8 = t0 98 8 ∧ s 98 9 = t0 98 9 ∧ s 101 18 = t0 101 18 ∧ s 101 25 = t0 101 25 ∧ s 101 43 = t0 101 43 ∧ s = h_up s291 98 14 (t0 98 16)) _ (if_98_14 Is291 (h_rgv hz292)) (Fs291.up rfl) ⟨es291.1, es291.2.1, es291.2.2.1, es291.2.2.2.1, es291.2.2.2.2.1, rfl, es291.2.2.2.2.2.2.1, es291.2.2.2.2.2.2.2.1, es291.2.2.2.2.2.2.2.2.1, es291.2.2.2.2.2.2.2.2.2.1, es291.2.2.2.2.2.2.2.2.2.2.1, es291.2.2.2.2.2.2.2.2.2.2.2.1, es291.2.2.2.2.2.2.2.2.2.2.2.2.1, es291.2.2.2.2.2.2.2.2.2.2.2.2.2.1, rfl⟩ (fun s293 Is293 Fs293 (es293 : s293 98 15 = t0 98 15 ∧ s293 98 16 = t0 98 16 ∧ s293 98 17 = t0 98 17 ∧ s293 98 18 = t0 98 18 ∧ s293 98 13 = 5 ∧ s293 98 14 = (t0 98 16) ∧ s293 98 5 = t0 98 5 ∧ s293 98 6 = t0 98 6 ∧ s293 98 7 = t0 98 7 ∧ s293 98 8 = t0 98 8 ∧ s293 98 9 = t0 98 9 ∧ s293 101 18 = t0 101 18 ∧ s293 101 25 = t0 101 25 ∧ s293 101 43 = t0 101 43 ∧ s293 = h_up s291 98 14 (t0 98 16)) => ?_))
            refine h_vret rfl rfl (h_Kn ?_)
            refine h_goto (pc' := 0) rfl rfl ?_
            refine d_toL (g_inj ns) hlw253 hRw253 (fun lvw294 memw294 hlw294 hRw294 => ?_)
            show h_T g_P (g_Y ns) 62 30 [(1, .int z252), (0, .ref 63)] [] s251 _
            exact h_wk [(0, .ref 63), (1, .int z252)] ⟨rfl, rfl, trivial⟩ (ih _ _ Is251 Is293 Fs251 Fs293 z252 _ hz252  (by omega) (by omega) (by omega) (by omega) (by omega) (by omega) (by omega) (by omega) (by omega) (fun h => absurd h (by omega)) (Or.inl ⟨by omega, by omega, by omega, by omega⟩) (by omega) _ _ (h_al_ok ⟨rfl, trivial⟩ hlw294) hRw294)
    · show h_T g_P (g_Y ns) 62 30 [(0, .ref 63), (1, .int x1)] [] s0 _
      refine h_iload_n (pc' := 31) rfl rfl rfl ?_
      refine h_bipush (pc' := 33) (x := (Int32.ofInt 8)) rfl rfl cb_8 ?_
      refine h_cgt (tg := 53) (pc' := 36) rfl rfl rfl hx1 ci_8 (fun c295 => ?_) (fun c295 => ?_)
      · refine d_toM (g_inj ns) hl2 hR2 (fun lvw296 memw296 hlw296 hRw296 => ?_)
        show h_T g_P (g_Y ns) 152 0 [(0, .ref 98)] [] t0 _
        refine h_aload_n (pc' := 1) rfl rfl rfl ?_
        refine h_getI (pc' := 4) (v := t0 98 13) rfl rfl rfl rfl rfl rfl (fun z297 hz297 => ?_)
        have tz297 := tf_98_13 J0
        refine h_zne (tg := 167) (pc' := 7) rfl rfl rfl hz297 (fun c298 => absurd c298 (by omega)) (fun c298 => ?_)
        clear hz297
        refine h_aload_n (pc' := 8) rfl rfl rfl ?_
        refine h_getI (pc' := 11) (v := t0 98 17) rfl rfl rfl rfl rfl rfl (fun z299 hz299 => ?_)
        have tz299 := tf_98_17 J0
        refine h_iconst (pc' := 12) (x := (Int32.ofInt 2)) rfl rfl rfl ?_
        refine h_cne (tg := 167) (pc' := 15) rfl rfl rfl hz299 ci_2 (fun c300 => ?_) (fun c300 => absurd c300 (by omega))
        clear hz299
        refine d_toL (g_inj ns) hlw296 hRw296 (fun lvw301 memw301 hlw301 hRw301 => ?_)
        show h_T g_P (g_Y ns) 62 53 [(0, .ref 63), (1, .int x1)] [] s0 _
        exact h_wk [(0, .ref 63)] ⟨rfl, trivial⟩ (kx0 _ _ I0 J0 F0_ H0_ (by omega) (by omega) (by omega) (by omega) (by omega) (ex9) (by omega) (by omega) (Or.inr (Or.inr (Or.inr (Or.inr ⟨by omega, by omega, by omega, by omega, by omega⟩)))) _ _ (h_al_ok ⟨rfl, trivial⟩ hlw301) hRw301)
      · refine h_aload_n (pc' := 37) rfl rfl rfl ?_
        refine h_call (sp := false) (pc' := 40) (M := [(0, .ref 63)]) rfl rfl rfl rfl rfl rfl rfl rfl ?_
        refine h_aload_n (pc' := 1) rfl rfl rfl ?_
        refine h_getI (pc' := 4) (v := s0 63 2) rfl rfl rfl rfl rfl rfl (fun z302 hz302 => ?_)
        have tz302 := tf_63_2 I0
        refine h_zne (tg := 22) (pc' := 7) rfl rfl rfl hz302 (fun c303 => absurd c303 (by omega)) (fun c303 => ?_)
        clear hz302
        refine h_aload_n (pc' := 8) rfl rfl rfl ?_
        refine h_getR (pc' := 11) rfl rfl rfl rfl rfl ?_
        refine h_getI (pc' := 14) (v := s0 64 3) rfl rfl rfl rfl rfl rfl (fun z304 hz304 => ?_)
        have tz304 := tf_64_3 I0
        refine h_iconst (pc' := 15) (x := (Int32.ofInt 2)) rfl rfl rfl ?_
        refine h_cne (tg := 22) (pc' := 18) rfl rfl rfl hz304 ci_2 (fun c305 => ?_) (fun c305 => absurd c305 (by omega))
        clear hz304
        refine h_iconst (pc' := 23) (x := (Int32.ofInt 0)) rfl rfl rfl ?_
        refine h_zret rfl rfl ci_0 (by omega) (h_Kv ?_)
        refine h_zeq (tg := 53) (pc' := 43) rfl rfl rfl ci_0 (fun c306 => ?_) (fun c306 => absurd c306 (by omega))
        refine d_toM (g_inj ns) hl2 hR2 (fun lvw307 memw307 hlw307 hRw307 => ?_)
        show h_T g_P (g_Y ns) 152 0 [(0, .ref 98)] [] t0 _
        refine h_aload_n (pc' := 1) rfl rfl rfl ?_
        refine h_getI (pc' := 4) (v := t0 98 13) rfl rfl rfl rfl rfl rfl (fun z308 hz308 => ?_)
        have tz308 := tf_98_13 J0
        refine h_zne (tg := 167) (pc' := 7) rfl rfl rfl hz308 (fun c309 => absurd c309 (by omega)) (fun c309 => ?_)
        clear hz308
        refine h_aload_n (pc' := 8) rfl rfl rfl ?_
        refine h_getI (pc' := 11) (v := t0 98 17) rfl rfl rfl rfl rfl rfl (fun z310 hz310 => ?_)
        have tz310 := tf_98_17 J0
        refine h_iconst (pc' := 12) (x := (Int32.ofInt 2)) rfl rfl rfl ?_
        refine h_cne (tg := 167) (pc' := 15) rfl rfl rfl hz310 ci_2 (fun c311 => ?_) (fun c311 => absurd c311 (by omega))
        clear hz310
        refine d_toL (g_inj ns) hlw307 hRw307 (fun lvw312 memw312 hlw312 hRw312 => ?_)
        show h_T g_P (g_Y ns) 62 53 [(0, .ref 63), (1, .int x1)] [] s0 _
        exact h_wk [(0, .ref 63)] ⟨rfl, trivial⟩ (kx0 _ _ I0 J0 F0_ H0_ (by omega) (by omega) (by omega) (by omega) (by omega) (ex9) (by omega) (by omega) (Or.inr (Or.inr (Or.inr (Or.inr ⟨by omega, by omega, by omega, by omega, by omega⟩)))) _ _ (h_al_ok ⟨rfl, trivial⟩ hlw312) hRw312)
