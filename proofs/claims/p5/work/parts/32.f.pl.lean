set_option maxHeartbeats 100000000 in
theorem lp_pl {ns : Nat} {σ1 σ2 : h_S} (hI1 : h_I σ1) (hI2 : h_I σ2) (hTL : d_tape σ1 σ2) {cs1 cs2 : List d_Fr} {Q : d_Q} (kx0 : ∀ (s t : h_S), h_I s → h_I t → h_F (k_in k_pl) s σ1 → h_F (k_in k_pm) t σ2 → (s 64 2 = t 98 15) → (s 64 4 = t 98 16) → (s 63 2 = t 98 13) → (s 64 2 ≤ s 64 1) → (σ1 64 2 ≤ s 64 2) → (d_ok s t) → (s 63 5 = 1) → (t 98 7 = 1) → (((1 ≤ s 63 2 ∧ s 63 2 ≤ 6) ∧ (1 ≤ t 98 13 ∧ t 98 13 ≤ 6) ∧ (s 63 2 = t 98 13) ∧ (s 63 3 = t 98 14)) ∨ ((s 63 2 = 0) ∧ (s 64 3 = 0) ∧ (t 98 13 = 0) ∧ (t 98 17 = 0) ∧ (s 66 10 = t 101 43) ∧ (s 64 4 = s 64 1)) ∨ ((s 63 2 = 0) ∧ (s 64 3 = 1) ∧ (t 98 13 = 0) ∧ (t 98 17 = 1) ∧ (s 66 10 = t 101 43) ∧ (s 64 4 < s 64 2) ∧ ((s 64 2 = σ1 64 2 ∧ s 64 3 = σ1 64 3) ∨ σ1 64 2 < s 64 2)) ∨ ((s 63 2 = 0) ∧ (s 64 3 = 2) ∧ (t 98 13 = 0) ∧ (t 98 17 = 2) ∧ (0 ≤ s 64 5 ∧ s 64 5 ≤ 99) ∧ (0 ≤ t 98 18 ∧ t 98 18 ≤ 99) ∧ (s 64 5 = t 98 18) ∧ (s 66 10 = t 101 43) ∧ (s 64 4 < s 64 2) ∧ ((s 64 2 = σ1 64 2 ∧ s 64 3 = σ1 64 3) ∨ σ1 64 2 < s 64 2)) ∨ ((s 63 2 = 0) ∧ (s 64 3 = 3) ∧ (t 98 13 = 0) ∧ (t 98 17 = 3) ∧ (s 66 10 = t 101 43) ∧ (s 64 4 < s 64 2) ∧ ((s 64 2 = σ1 64 2 ∧ s 64 3 = σ1 64 3) ∨ σ1 64 2 < s 64 2))) → ∀ lv2 mem2, h_loc [(0, .ref 98)] lv2 → h_R (g_Y ns) t mem2 → h_T g_P (g_Y ns) 62 53 [(0, .ref 63)] [] s (d_cs g_P (g_Y ns) cs1 (d_L g_P (g_Y ns) (152, 167, lv2, []) cs2 mem2 Q))) : ∀ (n : Nat) (s t : h_S), h_I s → h_I t → h_F (k_in k_pl) s σ1 → h_F (k_in k_pm) t σ2 → ∀ (x1 : Int32) (a1 : Int), x1.toInt = a1 → (s 64 2 = t 98 15) → (s 64 4 = t 98 16) → (s 63 2 = t 98 13) → (s 64 2 ≤ s 64 1) → (s 63 5 = 1) → (t 98 7 = 1) → (0 ≤ a1 ∧ a1 ≤ 9) → (s 63 2 = 0 → a1 = s 66 10) → (σ1 64 2 ≤ s 64 2) → (d_ok s t) → (((1 ≤ s 63 2 ∧ s 63 2 ≤ 6) ∧ (1 ≤ t 98 13 ∧ t 98 13 ≤ 6) ∧ (s 63 2 = t 98 13) ∧ (s 63 3 = t 98 14)) ∨ ((s 63 2 = 0) ∧ (s 64 3 = 0) ∧ (t 98 13 = 0) ∧ (t 98 17 = 0) ∧ (s 66 10 = t 101 43) ∧ (s 64 4 = s 64 1)) ∨ ((s 63 2 = 0) ∧ (s 64 3 = 1) ∧ (t 98 13 = 0) ∧ (t 98 17 = 1) ∧ (s 66 10 = t 101 43) ∧ (s 64 4 < s 64 2) ∧ ((s 64 2 = σ1 64 2 ∧ s 64 3 = σ1 64 3) ∨ σ1 64 2 < s 64 2)) ∨ ((s 63 2 = 0) ∧ (s 64 3 = 2) ∧ (t 98 13 = 0) ∧ (t 98 17 = 2) ∧ (0 ≤ s 64 5 ∧ s 64 5 ≤ 99) ∧ (0 ≤ t 98 18 ∧ t 98 18 ≤ 99) ∧ (s 64 5 = t 98 18) ∧ (s 66 10 = t 101 43) ∧ (s 64 4 < s 64 2) ∧ ((s 64 2 = σ1 64 2 ∧ s 64 3 = σ1 64 3) ∨ σ1 64 2 < s 64 2)) ∨ ((s 63 2 = 0) ∧ (s 64 3 = 3) ∧ (t 98 13 = 0) ∧ (t 98 17 = 3) ∧ (s 66 10 = t 101 43) ∧ (s 64 4 < s 64 2) ∧ ((s 64 2 = σ1 64 2 ∧ s 64 3 = σ1 64 3) ∨ σ1 64 2 < s 64 2))) → (161 - s 64 2) * 10 - s 63 2 + 6 ≤ (n : Int) → ∀ lv2 mem2, h_loc [(0, .ref 98)] lv2 → h_R (g_Y ns) t mem2 → h_T g_P (g_Y ns) 62 30 [(0, .ref 63), (1, .int x1)] [] s (d_cs g_P (g_Y ns) cs1 (d_L g_P (g_Y ns) (152, 0, lv2, []) cs2 mem2 Q)) := by
  have hT := hTL.1
  have hL := hTL.2
  intro n
  induction n with
  | zero => intro s0 t0 I0 J0 F0_ H0_ x1 a1 hx1 ex0 ex1 ex2 ex3 ex4 ex5 ex6 ex7 ex8 ex9 pc0 hm lv2 mem2 hl2 hR2; have ge0 := tf_64_1 hI1; have ge1 := tf_64_2 I0; have ge2 := tf_63_2 I0; have ge3 := tf_66_8 I0; have ge4 := tf_66_9 I0; have ge5 := tf_66_10 I0; have ge6 := tf_69_2 I0; have ge7 := tf_72_2 I0; have ge8 := tf_98_8 J0; have ge9 := tf_98_9 J0; have ge10 := F0_ 64 1 rfl; exfalso; omega
  | succ n ih =>
    intro s0 t0 I0 J0 F0_ H0_ x1 a1 hx1 ex0 ex1 ex2 ex3 ex4 ex5 ex6 ex7 ex8 ex9 pc0 hm lv2 mem2 hl2 hR2; have ge0 := tf_64_1 hI1; have ge1 := tf_64_2 I0; have ge2 := tf_63_2 I0; have ge3 := tf_66_8 I0; have ge4 := tf_66_9 I0; have ge5 := tf_66_10 I0; have ge6 := tf_69_2 I0; have ge7 := tf_72_2 I0; have ge8 := tf_98_8 J0; have ge9 := tf_98_9 J0; have ge10 := F0_ 64 1 rfl
    rcases pc0 with pc0 | pc0 | pc0 | pc0 | pc0
    · show h_T g_P (g_Y ns) 62 30 [(0, .ref 63), (1, .int x1)] [] s0 _
      refine h_iload_n (pc' := 31) rfl rfl rfl ?_
      refine h_bipush (pc' := 33) (x := (Int32.ofInt 8)) rfl rfl cb_8 ?_
      refine h_cgt (tg := 53) (pc' := 36) rfl rfl rfl hx1 ci_8 (fun c21 => ?_) (fun c21 => ?_)
      · refine d_toM (g_inj ns) hl2 hR2 (fun lvw22 memw22 hlw22 hRw22 => ?_)
        show h_T g_P (g_Y ns) 152 0 [(0, .ref 98)] [] t0 _
        refine h_aload_n (pc' := 1) rfl rfl rfl ?_
        refine h_getI (pc' := 4) (v := t0 98 13) rfl rfl rfl rfl rfl rfl (fun z23 hz23 => ?_)
        have tz23 := tf_98_13 J0
        refine h_zne (tg := 167) (pc' := 7) rfl rfl rfl hz23 (fun c24 => ?_) (fun c24 => absurd c24 (by omega))
        clear hz23
        refine d_toL (g_inj ns) hlw22 hRw22 (fun lvw25 memw25 hlw25 hRw25 => ?_)
        show h_T g_P (g_Y ns) 62 53 [(0, .ref 63), (1, .int x1)] [] s0 _
        exact h_wk [(0, .ref 63)] ⟨rfl, trivial⟩ (kx0 _ _ I0 J0 F0_ H0_ (Int.le_antisymm (by omega) (by omega)) (Int.le_antisymm (by omega) (by omega)) (Int.le_antisymm (by omega) (by omega)) (by omega) (by omega) (fun h => absurd h (by omega)) (Int.le_antisymm (by omega) (by omega)) (Int.le_antisymm (by omega) (by omega)) (Or.inl ⟨⟨by omega, by omega⟩, ⟨by omega, by omega⟩, Int.le_antisymm (by omega) (by omega), Int.le_antisymm (by omega) (by omega)⟩) _ _ (h_al_ok ⟨rfl, trivial⟩ hlw25) hRw25)
      · refine h_aload_n (pc' := 37) rfl rfl rfl ?_
        refine h_call (sp := false) (pc' := 40) (M := [(0, .ref 63)]) rfl rfl rfl rfl rfl rfl rfl rfl ?_
        refine h_aload_n (pc' := 1) rfl rfl rfl ?_
        refine h_getI (pc' := 4) (v := s0 63 2) rfl rfl rfl rfl rfl rfl (fun z26 hz26 => ?_)
        have tz26 := tf_63_2 I0
        refine h_zne (tg := 22) (pc' := 7) rfl rfl rfl hz26 (fun c27 => ?_) (fun c27 => absurd c27 (by omega))
        clear hz26
        refine h_iconst (pc' := 23) (x := (Int32.ofInt 0)) rfl rfl rfl ?_
        refine h_zret rfl rfl ci_0 (by omega) (h_Kv ?_)
        refine h_zeq (tg := 53) (pc' := 43) rfl rfl rfl ci_0 (fun c28 => ?_) (fun c28 => absurd (Int.le_antisymm (by omega) (by omega)) c28)
        refine d_toM (g_inj ns) hl2 hR2 (fun lvw29 memw29 hlw29 hRw29 => ?_)
        show h_T g_P (g_Y ns) 152 0 [(0, .ref 98)] [] t0 _
        refine h_aload_n (pc' := 1) rfl rfl rfl ?_
        refine h_getI (pc' := 4) (v := t0 98 13) rfl rfl rfl rfl rfl rfl (fun z30 hz30 => ?_)
        have tz30 := tf_98_13 J0
        refine h_zne (tg := 167) (pc' := 7) rfl rfl rfl hz30 (fun c31 => ?_) (fun c31 => absurd c31 (by omega))
        clear hz30
        refine d_toL (g_inj ns) hlw29 hRw29 (fun lvw32 memw32 hlw32 hRw32 => ?_)
        show h_T g_P (g_Y ns) 62 53 [(0, .ref 63), (1, .int x1)] [] s0 _
        exact h_wk [(0, .ref 63)] ⟨rfl, trivial⟩ (kx0 _ _ I0 J0 F0_ H0_ (Int.le_antisymm (by omega) (by omega)) (Int.le_antisymm (by omega) (by omega)) (Int.le_antisymm (by omega) (by omega)) (by omega) (by omega) (fun h => absurd h (by omega)) (Int.le_antisymm (by omega) (by omega)) (Int.le_antisymm (by omega) (by omega)) (Or.inl ⟨⟨by omega, by omega⟩, ⟨by omega, by omega⟩, Int.le_antisymm (by omega) (by omega), Int.le_antisymm (by omega) (by omega)⟩) _ _ (h_al_ok ⟨rfl, trivial⟩ hlw32) hRw32)
    · show h_T g_P (g_Y ns) 62 30 [(0, .ref 63), (1, .int x1)] [] s0 _
      refine h_iload_n (pc' := 31) rfl rfl rfl ?_
      refine h_bipush (pc' := 33) (x := (Int32.ofInt 8)) rfl rfl cb_8 ?_
      refine h_cgt (tg := 53) (pc' := 36) rfl rfl rfl hx1 ci_8 (fun c33 => absurd c33 (by omega)) (fun c33 => ?_)
      refine h_aload_n (pc' := 37) rfl rfl rfl ?_
      refine h_call (sp := false) (pc' := 40) (M := [(0, .ref 63)]) rfl rfl rfl rfl rfl rfl rfl rfl ?_
      refine h_aload_n (pc' := 1) rfl rfl rfl ?_
      refine h_getI (pc' := 4) (v := s0 63 2) rfl rfl rfl rfl rfl rfl (fun z34 hz34 => ?_)
      have tz34 := tf_63_2 I0
      refine h_zne (tg := 22) (pc' := 7) rfl rfl rfl hz34 (fun c35 => absurd (Int.le_antisymm (by omega) (by omega)) c35) (fun c35 => ?_)
      clear hz34
      refine h_aload_n (pc' := 8) rfl rfl rfl ?_
      refine h_getR (pc' := 11) rfl rfl rfl rfl rfl ?_
      refine h_getI (pc' := 14) (v := s0 64 3) rfl rfl rfl rfl rfl rfl (fun z36 hz36 => ?_)
      have tz36 := tf_64_3 I0
      refine h_iconst (pc' := 15) (x := (Int32.ofInt 2)) rfl rfl rfl ?_
      refine h_cne (tg := 22) (pc' := 18) rfl rfl rfl hz36 ci_2 (fun c37 => ?_) (fun c37 => absurd c37 (by omega))
      clear hz36
      refine h_iconst (pc' := 23) (x := (Int32.ofInt 0)) rfl rfl rfl ?_
      refine h_zret rfl rfl ci_0 (by omega) (h_Kv ?_)
      refine h_zeq (tg := 53) (pc' := 43) rfl rfl rfl ci_0 (fun c38 => ?_) (fun c38 => absurd (Int.le_antisymm (by omega) (by omega)) c38)
      refine d_toM (g_inj ns) hl2 hR2 (fun lvw39 memw39 hlw39 hRw39 => ?_)
      show h_T g_P (g_Y ns) 152 0 [(0, .ref 98)] [] t0 _
      refine h_aload_n (pc' := 1) rfl rfl rfl ?_
      refine h_getI (pc' := 4) (v := t0 98 13) rfl rfl rfl rfl rfl rfl (fun z40 hz40 => ?_)
      have tz40 := tf_98_13 J0
      refine h_zne (tg := 167) (pc' := 7) rfl rfl rfl hz40 (fun c41 => absurd (Int.le_antisymm (by omega) (by omega)) c41) (fun c41 => ?_)
      clear hz40
      refine h_aload_n (pc' := 8) rfl rfl rfl ?_
      refine h_getI (pc' := 11) (v := t0 98 17) rfl rfl rfl rfl rfl rfl (fun z42 hz42 => ?_)
      have tz42 := tf_98_17 J0
      refine h_iconst (pc' := 12) (x := (Int32.ofInt 2)) rfl rfl rfl ?_
      refine h_cne (tg := 167) (pc' := 15) rfl rfl rfl hz42 ci_2 (fun c43 => ?_) (fun c43 => absurd c43 (by omega))
      clear hz42
      refine d_toL (g_inj ns) hlw39 hRw39 (fun lvw44 memw44 hlw44 hRw44 => ?_)
      show h_T g_P (g_Y ns) 62 53 [(0, .ref 63), (1, .int x1)] [] s0 _
      exact h_wk [(0, .ref 63)] ⟨rfl, trivial⟩ (kx0 _ _ I0 J0 F0_ H0_ (Int.le_antisymm (by omega) (by omega)) (Int.le_antisymm (by omega) (by omega)) (Int.le_antisymm (by omega) (by omega)) (by omega) (by omega) (ex9) (Int.le_antisymm (by omega) (by omega)) (Int.le_antisymm (by omega) (by omega)) (Or.inr (Or.inl ⟨Int.le_antisymm (by omega) (by omega), Int.le_antisymm (by omega) (by omega), Int.le_antisymm (by omega) (by omega), Int.le_antisymm (by omega) (by omega), Int.le_antisymm (by omega) (by omega), Int.le_antisymm (by omega) (by omega)⟩)) _ _ (h_al_ok ⟨rfl, trivial⟩ hlw44) hRw44)
    · show h_T g_P (g_Y ns) 62 30 [(0, .ref 63), (1, .int x1)] [] s0 _
      refine h_iload_n (pc' := 31) rfl rfl rfl ?_
      refine h_bipush (pc' := 33) (x := (Int32.ofInt 8)) rfl rfl cb_8 ?_
      refine h_cgt (tg := 53) (pc' := 36) rfl rfl rfl hx1 ci_8 (fun c45 => absurd c45 (by omega)) (fun c45 => ?_)
      refine h_aload_n (pc' := 37) rfl rfl rfl ?_
      refine h_call (sp := false) (pc' := 40) (M := [(0, .ref 63)]) rfl rfl rfl rfl rfl rfl rfl rfl ?_
      refine h_aload_n (pc' := 1) rfl rfl rfl ?_
      refine h_getI (pc' := 4) (v := s0 63 2) rfl rfl rfl rfl rfl rfl (fun z46 hz46 => ?_)
      have tz46 := tf_63_2 I0
      refine h_zne (tg := 22) (pc' := 7) rfl rfl rfl hz46 (fun c47 => absurd (Int.le_antisymm (by omega) (by omega)) c47) (fun c47 => ?_)
      clear hz46
      refine h_aload_n (pc' := 8) rfl rfl rfl ?_
      refine h_getR (pc' := 11) rfl rfl rfl rfl rfl ?_
      refine h_getI (pc' := 14) (v := s0 64 3) rfl rfl rfl rfl rfl rfl (fun z48 hz48 => ?_)
      have tz48 := tf_64_3 I0
      refine h_iconst (pc' := 15) (x := (Int32.ofInt 2)) rfl rfl rfl ?_
      refine h_cne (tg := 22) (pc' := 18) rfl rfl rfl hz48 ci_2 (fun c49 => ?_) (fun c49 => absurd c49 (by omega))
      clear hz48
      refine h_iconst (pc' := 23) (x := (Int32.ofInt 0)) rfl rfl rfl ?_
      refine h_zret rfl rfl ci_0 (by omega) (h_Kv ?_)
      refine h_zeq (tg := 53) (pc' := 43) rfl rfl rfl ci_0 (fun c50 => ?_) (fun c50 => absurd (Int.le_antisymm (by omega) (by omega)) c50)
      refine d_toM (g_inj ns) hl2 hR2 (fun lvw51 memw51 hlw51 hRw51 => ?_)
      show h_T g_P (g_Y ns) 152 0 [(0, .ref 98)] [] t0 _
      refine h_aload_n (pc' := 1) rfl rfl rfl ?_
      refine h_getI (pc' := 4) (v := t0 98 13) rfl rfl rfl rfl rfl rfl (fun z52 hz52 => ?_)
      have tz52 := tf_98_13 J0
      refine h_zne (tg := 167) (pc' := 7) rfl rfl rfl hz52 (fun c53 => absurd (Int.le_antisymm (by omega) (by omega)) c53) (fun c53 => ?_)
      clear hz52
      refine h_aload_n (pc' := 8) rfl rfl rfl ?_
      refine h_getI (pc' := 11) (v := t0 98 17) rfl rfl rfl rfl rfl rfl (fun z54 hz54 => ?_)
      have tz54 := tf_98_17 J0
      refine h_iconst (pc' := 12) (x := (Int32.ofInt 2)) rfl rfl rfl ?_
      refine h_cne (tg := 167) (pc' := 15) rfl rfl rfl hz54 ci_2 (fun c55 => ?_) (fun c55 => absurd c55 (by omega))
      clear hz54
      refine d_toL (g_inj ns) hlw51 hRw51 (fun lvw56 memw56 hlw56 hRw56 => ?_)
      show h_T g_P (g_Y ns) 62 53 [(0, .ref 63), (1, .int x1)] [] s0 _
      exact h_wk [(0, .ref 63)] ⟨rfl, trivial⟩ (kx0 _ _ I0 J0 F0_ H0_ (Int.le_antisymm (by omega) (by omega)) (Int.le_antisymm (by omega) (by omega)) (Int.le_antisymm (by omega) (by omega)) (by omega) (by omega) (ex9) (Int.le_antisymm (by omega) (by omega)) (Int.le_antisymm (by omega) (by omega)) (Or.inr (Or.inr (Or.inl ⟨Int.le_antisymm (by omega) (by omega), Int.le_antisymm (by omega) (by omega), Int.le_antisymm (by omega) (by omega), Int.le_antisymm (by omega) (by omega), Int.le_antisymm (by omega) (by omega), by omega, by omega⟩))) _ _ (h_al_ok ⟨rfl, trivial⟩ hlw56) hRw56)
    · show h_T g_P (g_Y ns) 62 30 [(0, .ref 63), (1, .int x1)] [] s0 _
      refine h_iload_n (pc' := 31) rfl rfl rfl ?_
      refine h_bipush (pc' := 33) (x := (Int32.ofInt 8)) rfl rfl cb_8 ?_
      refine h_cgt (tg := 53) (pc' := 36) rfl rfl rfl hx1 ci_8 (fun c57 => absurd c57 (by omega)) (fun c57 => ?_)
      refine h_aload_n (pc' := 37) rfl rfl rfl ?_
      refine h_call (sp := false) (pc' := 40) (M := [(0, .ref 63)]) rfl rfl rfl rfl rfl rfl rfl rfl ?_
      refine h_aload_n (pc' := 1) rfl rfl rfl ?_
      refine h_getI (pc' := 4) (v := s0 63 2) rfl rfl rfl rfl rfl rfl (fun z58 hz58 => ?_)
      have tz58 := tf_63_2 I0
      refine h_zne (tg := 22) (pc' := 7) rfl rfl rfl hz58 (fun c59 => absurd (Int.le_antisymm (by omega) (by omega)) c59) (fun c59 => ?_)
      clear hz58
      refine h_aload_n (pc' := 8) rfl rfl rfl ?_
      refine h_getR (pc' := 11) rfl rfl rfl rfl rfl ?_
      refine h_getI (pc' := 14) (v := s0 64 3) rfl rfl rfl rfl rfl rfl (fun z60 hz60 => ?_)
      have tz60 := tf_64_3 I0
      refine h_iconst (pc' := 15) (x := (Int32.ofInt 2)) rfl rfl rfl ?_
      refine h_cne (tg := 22) (pc' := 18) rfl rfl rfl hz60 ci_2 (fun c61 => absurd (Int.le_antisymm (by omega) (by omega)) c61) (fun c61 => ?_)
      clear hz60
      refine h_iconst (pc' := 19) (x := (Int32.ofInt 1)) rfl rfl rfl ?_
      refine h_goto (pc' := 23) rfl rfl ?_
      refine h_zret rfl rfl ci_1 (by omega) (h_Kv ?_)
      refine h_zeq (tg := 53) (pc' := 43) rfl rfl rfl ci_1 (fun c62 => absurd c62 (by omega)) (fun c62 => ?_)
      refine h_aload_n (pc' := 44) rfl rfl rfl ?_
      refine d_call (g_inj ns) (pc' := 47) (m := 63) (M := [(0, .ref 63)]) (rest := []) ⟨false, _, _, _, _, _, _, rfl, rfl, rfl, rfl, rfl, rfl, rfl⟩ (fun lv63 hlv63 => ?_)
      refine h_aload_n (pc' := 1) rfl rfl rfl ?_
      refine h_getR (pc' := 4) rfl rfl rfl rfl rfl ?_
      refine h_getI (pc' := 7) (v := s0 64 5) rfl rfl rfl rfl rfl rfl (fun z64 hz64 => ?_)
      have tz64 := tf_64_5 I0
      refine h_istore_n (pc' := 8) (M := [(1, .int z64), (0, .ref 63)]) rfl rfl rfl rfl ?_
      refine h_aload_n (pc' := 9) rfl rfl rfl ?_
      refine h_getR (pc' := 12) rfl rfl rfl rfl rfl ?_
      refine h_getI (pc' := 15) (v := s0 66 10) rfl rfl rfl rfl rfl rfl (fun z65 hz65 => ?_)
      have tz65 := tf_66_10 I0
      refine h_bipush (pc' := 17) (x := (Int32.ofInt 8)) rfl rfl cb_8 ?_
      refine h_clt (tg := 35) (pc' := 20) rfl rfl rfl hz65 ci_8 (fun c66 => ?_) (fun c66 => ?_)
      · clear hz65
        refine h_iload_n (pc' := 36) rfl rfl rfl ?_
        refine h_bipush (pc' := 38) (x := (Int32.ofInt 10)) rfl rfl cb_10 ?_
        refine h_idiv (pc' := 39) rfl rfl hz64 ci_10 (by omega) (by omega) (fun z67 hz67 => ?_)
        refine h_bipush (pc' := 41) (x := (Int32.ofInt 6)) rfl rfl cb_6 ?_
        refine h_cge (tg := 52) (pc' := 44) rfl rfl rfl hz67 ci_6 (fun c68 => ?_) (fun c68 => ?_)
        · clear hz67
          refine h_aload_n (pc' := 53) rfl rfl rfl ?_
          refine h_iconst (pc' := 54) (x := (Int32.ofInt 3)) rfl rfl rfl ?_
          refine h_aload_n (pc' := 55) rfl rfl rfl ?_
          refine h_getR (pc' := 58) rfl rfl rfl rfl rfl ?_
          refine h_getI (pc' := 61) (v := s0 64 4) rfl rfl rfl rfl rfl rfl (fun z69 hz69 => ?_)
          have tz69 := tf_64_4 I0
          refine h_call (sp := false) (pc' := 64) (M := [(0, .ref 63), (1, .int (Int32.ofInt 3)), (2, .int z69)]) rfl rfl rfl rfl rfl rfl rfl rfl ?_
          refine h_aload_n (pc' := 1) rfl rfl rfl ?_
          refine h_getI (pc' := 4) (v := s0 63 2) rfl rfl rfl rfl rfl rfl (fun z70 hz70 => ?_)
          refine h_zne (tg := 17) (pc' := 7) rfl rfl rfl hz70 (fun c71 => absurd (Int.le_antisymm (by omega) (by omega)) c71) (fun c71 => ?_)
          clear hz70
          refine h_aload_n (pc' := 8) rfl rfl rfl ?_
          refine h_iload_n (pc' := 9) rfl rfl rfl ?_
          refine h_put (pc' := 12) rfl rfl rfl rfl rfl rfl ci_3 rfl (h_fgt (E := fun s => s 64 2 = s0 64 2 ∧ s 64 4 = s0 64 4 ∧ s 64 3 = s0 64 3 ∧ s 64 5 = s0 64 5 ∧ s 63 2 = 3 ∧ s 63 3 = s0 63 3 ∧ s 64 1 = s0 64 1 ∧ s 66 8 = s0 66 8 ∧ s 66 9 = s0 66 9 ∧ s 66 10 = s0 66 10 ∧ s 69 2 = s0 69 2 ∧ s 72 2 = s0 72 2 ∧ s 63 5 = s0 63 5 ∧ s = h_up s0 63 2 3) _ (if_63_2 I0 (by omega)) (F0_.up rfl) ⟨rfl, rfl, rfl, rfl, rfl, rfl, rfl, rfl, rfl, rfl, rfl, rfl, rfl, rfl⟩ (fun s72 Is72 Fs72 (es72 : s72 64 2 = s0 64 2 ∧ s72 64 4 = s0 64 4 ∧ s72 64 3 = s0 64 3 ∧ s72 64 5 = s0 64 5 ∧ s72 63 2 = 3 ∧ s72 63 3 = s0 63 3 ∧ s72 64 1 = s0 64 1 ∧ s72 66 8 = s0 66 8 ∧ s72 66 9 = s0 66 9 ∧ s72 66 10 = s0 66 10 ∧ s72 69 2 = s0 69 2 ∧ s72 72 2 = s0 72 2 ∧ s72 63 5 = s0 63 5 ∧ s72 = h_up s0 63 2 3) => ?_))
          have us72 := es72.2.2.2.2.2.2.2.2.2.2.2.2.2
          refine h_aload_n (pc' := 13) rfl rfl rfl ?_
          refine h_iload_n (pc' := 14) rfl rfl rfl ?_
          refine h_put (pc' := 17) rfl rfl rfl rfl rfl rfl hz69 rfl (h_fgt (E := fun s => s 64 2 = s0 64 2 ∧ s 64 4 = s0 64 4 ∧ s 64 3 = s0 64 3 ∧ s 64 5 = s0 64 5 ∧ s 63 2 = 3 ∧ s 63 3 = (s0 64 4) ∧ s 64 1 = s0 64 1 ∧ s 66 8 = s0 66 8 ∧ s 66 9 = s0 66 9 ∧ s 66 10 = s0 66 10 ∧ s 69 2 = s0 69 2 ∧ s 72 2 = s0 72 2 ∧ s 63 5 = s0 63 5 ∧ s = h_up s72 63 3 (s0 64 4)) _ (if_63_3 Is72 (h_rgv hz69)) (Fs72.up rfl) ⟨es72.1, es72.2.1, es72.2.2.1, es72.2.2.2.1, es72.2.2.2.2.1, rfl, es72.2.2.2.2.2.2.1, es72.2.2.2.2.2.2.2.1, es72.2.2.2.2.2.2.2.2.1, es72.2.2.2.2.2.2.2.2.2.1, es72.2.2.2.2.2.2.2.2.2.2.1, es72.2.2.2.2.2.2.2.2.2.2.2.1, es72.2.2.2.2.2.2.2.2.2.2.2.2.1, rfl⟩ (fun s73 Is73 Fs73 (es73 : s73 64 2 = s0 64 2 ∧ s73 64 4 = s0 64 4 ∧ s73 64 3 = s0 64 3 ∧ s73 64 5 = s0 64 5 ∧ s73 63 2 = 3 ∧ s73 63 3 = (s0 64 4) ∧ s73 64 1 = s0 64 1 ∧ s73 66 8 = s0 66 8 ∧ s73 66 9 = s0 66 9 ∧ s73 66 10 = s0 66 10 ∧ s73 69 2 = s0 69 2 ∧ s73 72 2 = s0 72 2 ∧ s73 63 5 = s0 63 5 ∧ s73 = h_up s72 63 3 (s0 64 4)) => ?_))
          clear es72
          have us73 := es73.2.2.2.2.2.2.2.2.2.2.2.2.2
          refine h_vret rfl rfl (h_Kn ?_)
          refine h_goto (pc' := 79) rfl rfl ?_
          refine h_vret rfl rfl (d_retn hlv63 ?_)
          clear hz64
          refine h_iinc (pc' := 50) (M := fun z74 => [(1, .int z74), (0, .ref 63)]) rfl rfl rfl rfl hx1 ci_1 rfl (by omega) (by omega) (fun _ => rfl) (fun z74 hz74 => ?_)
          refine h_goto (pc' := 30) rfl rfl ?_
          refine d_toM (g_inj ns) hl2 hR2 (fun lvw75 memw75 hlw75 hRw75 => ?_)
          show h_T g_P (g_Y ns) 152 0 [(0, .ref 98)] [] t0 _
          refine h_aload_n (pc' := 1) rfl rfl rfl ?_
          refine h_getI (pc' := 4) (v := t0 98 13) rfl rfl rfl rfl rfl rfl (fun z76 hz76 => ?_)
          have tz76 := tf_98_13 J0
          refine h_zne (tg := 167) (pc' := 7) rfl rfl rfl hz76 (fun c77 => absurd (Int.le_antisymm (by omega) (by omega)) c77) (fun c77 => ?_)
          clear hz76
          refine h_aload_n (pc' := 8) rfl rfl rfl ?_
          refine h_getI (pc' := 11) (v := t0 98 17) rfl rfl rfl rfl rfl rfl (fun z78 hz78 => ?_)
          have tz78 := tf_98_17 J0
          refine h_iconst (pc' := 12) (x := (Int32.ofInt 2)) rfl rfl rfl ?_
          refine h_cne (tg := 167) (pc' := 15) rfl rfl rfl hz78 ci_2 (fun c79 => absurd (Int.le_antisymm (by omega) (by omega)) c79) (fun c79 => ?_)
          clear hz78
          refine h_aload_n (pc' := 16) rfl rfl rfl ?_
          refine h_getR (pc' := 19) rfl rfl rfl rfl rfl ?_
          refine h_bipush (pc' := 21) (x := (Int32.ofInt 43)) rfl rfl cb_43 ?_
          refine h_iald (pc' := 22) (v := t0 101 43) rfl rfl rfl ci_43 (by omega) (by omega) rfl (fun z80 hz80 => ?_)
          have tz80 := ty_101_10 J0 43 (by omega)
          refine h_bipush (pc' := 24) (x := (Int32.ofInt 8)) rfl rfl cb_8 ?_
          refine h_cne (tg := 35) (pc' := 27) rfl rfl rfl hz80 ci_8 (fun c81 => ?_) (fun c81 => absurd c81 (by omega))
          clear hz80
          refine h_aload_n (pc' := 36) rfl rfl rfl ?_
          refine h_getI (pc' := 39) (v := t0 98 18) rfl rfl rfl rfl rfl rfl (fun z82 hz82 => ?_)
          have tz82 := tf_98_18 J0
          refine h_bipush (pc' := 41) (x := (Int32.ofInt 10)) rfl rfl cb_10 ?_
          refine h_idiv (pc' := 42) rfl rfl hz82 ci_10 (by omega) (by omega) (fun z83 hz83 => ?_)
          clear hz82
          refine h_bipush (pc' := 44) (x := (Int32.ofInt 6)) rfl rfl cb_6 ?_
          refine h_cge (tg := 58) (pc' := 47) rfl rfl rfl hz83 ci_6 (fun c84 => ?_) (fun c84 => absurd c84 (by omega))
          clear hz83
          refine h_aload_n (pc' := 59) rfl rfl rfl ?_
          refine h_iconst (pc' := 60) (x := (Int32.ofInt 3)) rfl rfl rfl ?_
          refine h_call (sp := false) (pc' := 63) (M := [(0, .ref 98), (1, .int (Int32.ofInt 3))]) rfl rfl rfl rfl rfl rfl rfl rfl ?_
          refine h_aload_n (pc' := 1) rfl rfl rfl ?_
          refine h_getI (pc' := 4) (v := t0 98 13) rfl rfl rfl rfl rfl rfl (fun z85 hz85 => ?_)
          refine h_zne (tg := 20) (pc' := 7) rfl rfl rfl hz85 (fun c86 => absurd (Int.le_antisymm (by omega) (by omega)) c86) (fun c86 => ?_)
          clear hz85
          refine h_aload_n (pc' := 8) rfl rfl rfl ?_
          refine h_iload_n (pc' := 9) rfl rfl rfl ?_
          refine h_put (pc' := 12) rfl rfl rfl rfl rfl rfl ci_3 rfl (h_fgt (E := fun s => s 98 15 = t0 98 15 ∧ s 98 16 = t0 98 16 ∧ s 98 17 = t0 98 17 ∧ s 98 18 = t0 98 18 ∧ s 98 13 = 3 ∧ s 98 14 = t0 98 14 ∧ s 98 5 = t0 98 5 ∧ s 98 6 = t0 98 6 ∧ s 98 7 = t0 98 7 ∧ s 98 8 = t0 98 8 ∧ s 98 9 = t0 98 9 ∧ s 101 18 = t0 101 18 ∧ s 101 25 = t0 101 25 ∧ s 101 43 = t0 101 43 ∧ s = h_up t0 98 13 3) _ (if_98_13 J0 (by omega)) (H0_.up rfl) ⟨rfl, rfl, rfl, rfl, rfl, rfl, rfl, rfl, rfl, rfl, rfl, rfl, rfl, rfl, rfl⟩ (fun s87 Is87 Fs87 (es87 : s87 98 15 = t0 98 15 ∧ s87 98 16 = t0 98 16 ∧ s87 98 17 = t0 98 17 ∧ s87 98 18 = t0 98 18 ∧ s87 98 13 = 3 ∧ s87 98 14 = t0 98 14 ∧ s87 98 5 = t0 98 5 ∧ s87 98 6 = t0 98 6 ∧ s87 98 7 = t0 98 7 ∧ s87 98 8 = t0 98 8 ∧ s87 98 9 = t0 98 9 ∧ s87 101 18 = t0 101 18 ∧ s87 101 25 = t0 101 25 ∧ s87 101 43 = t0 101 43 ∧ s87 = h_up t0 98 13 3) => ?_))
          have us87 := es87.2.2.2.2.2.2.2.2.2.2.2.2.2.2
          refine h_aload_n (pc' := 13) rfl rfl rfl ?_
          refine h_aload_n (pc' := 14) rfl rfl rfl ?_
          refine h_getI (pc' := 17) (v := t0 98 16) rfl rfl rfl rfl rfl es87.2.1 (fun z88 hz88 => ?_)
          have tz88 := tf_98_16 J0
          refine h_put (pc' := 20) rfl rfl rfl rfl rfl rfl hz88 rfl (h_fgt (E := fun s => s 98 15 = t0 98 15 ∧ s 98 16 = t0 98 16 ∧ s 98 17 = t0 98 17 ∧ s 98 18 = t0 98 18 ∧ s 98 13 = 3 ∧ s 98 14 = (t0 98 16) ∧ s 98 5 = t0 98 5 ∧ s 98 6 = t0 98 6 ∧ s 98 7 = t0 98 7 ∧ s 98 8 = t0 98 8 ∧ s 98 9 = t0 98 9 ∧ s 101 18 = t0 101 18 ∧ s 101 25 = t0 101 25 ∧ s 101 43 = t0 101 43 ∧ s = h_up s87 98 14 (t0 98 16)) _ (if_98_14 Is87 (h_rgv hz88)) (Fs87.up rfl) ⟨es87.1, es87.2.1, es87.2.2.1, es87.2.2.2.1, es87.2.2.2.2.1, rfl, es87.2.2.2.2.2.2.1, es87.2.2.2.2.2.2.2.1, es87.2.2.2.2.2.2.2.2.1, es87.2.2.2.2.2.2.2.2.2.1, es87.2.2.2.2.2.2.2.2.2.2.1, es87.2.2.2.2.2.2.2.2.2.2.2.1, es87.2.2.2.2.2.2.2.2.2.2.2.2.1, es87.2.2.2.2.2.2.2.2.2.2.2.2.2.1, rfl⟩ (fun s89 Is89 Fs89 (es89 : s89 98 15 = t0 98 15 ∧ s89 98 16 = t0 98 16 ∧ s89 98 17 = t0 98 17 ∧ s89 98 18 = t0 98 18 ∧ s89 98 13 = 3 ∧ s89 98 14 = (t0 98 16) ∧ s89 98 5 = t0 98 5 ∧ s89 98 6 = t0 98 6 ∧ s89 98 7 = t0 98 7 ∧ s89 98 8 = t0 98 8 ∧ s89 98 9 = t0 98 9 ∧ s89 101 18 = t0 101 18 ∧ s89 101 25 = t0 101 25 ∧ s89 101 43 = t0 101 43 ∧ s89 = h_up s87 98 14 (t0 98 16)) => ?_))
          clear es87
          have us89 := es89.2.2.2.2.2.2.2.2.2.2.2.2.2.2
          refine h_vret rfl rfl (h_Kn ?_)
          refine h_goto (pc' := 0) rfl rfl ?_
          refine d_toL (g_inj ns) hlw75 hRw75 (fun lvw90 memw90 hlw90 hRw90 => ?_)
          show h_T g_P (g_Y ns) 62 30 [(1, .int z74), (0, .ref 63)] [] s73 _
          exact h_wk [(0, .ref 63), (1, .int z74)] ⟨rfl, rfl, trivial⟩ (ih _ _ Is73 Is89 Fs73 Fs89 z74 _ hz74  (Int.le_antisymm (by omega) (by omega)) (Int.le_antisymm (by omega) (by omega)) (Int.le_antisymm (by omega) (by omega)) (by omega) (Int.le_antisymm (by omega) (by omega)) (Int.le_antisymm (by omega) (by omega)) (⟨by omega, by omega⟩) (by omega) (by omega) (fun h => absurd h (by omega)) (Or.inl ⟨⟨by omega, by omega⟩, ⟨by omega, by omega⟩, Int.le_antisymm (by omega) (by omega), Int.le_antisymm (by omega) (by omega)⟩) (by omega) _ _ (h_al_ok ⟨rfl, trivial⟩ hlw90) hRw90)
        · clear hz67
          refine h_iload_n (pc' := 45) rfl rfl rfl ?_
          refine h_bipush (pc' := 47) (x := (Int32.ofInt 10)) rfl rfl cb_10 ?_
          refine h_irem (pc' := 48) rfl rfl hz64 ci_10 (by omega) (by omega) (fun z91 hz91 => ?_)
          refine h_iconst (pc' := 49) (x := (Int32.ofInt 3)) rfl rfl rfl ?_
          refine h_clt (tg := 67) (pc' := 52) rfl rfl rfl hz91 ci_3 (fun c92 => ?_) (fun c92 => ?_)
          · clear hz91
            refine h_aload_n (pc' := 68) rfl rfl rfl ?_
            refine h_getR (pc' := 71) rfl rfl rfl rfl rfl ?_
            refine h_iload_n (pc' := 72) rfl rfl rfl ?_
            refine h_call (sp := false) (pc' := 75) (M := [(0, .ref 66), (1, .int z64)]) rfl rfl rfl rfl rfl rfl rfl rfl ?_
            refine h_aload_n (pc' := 1) rfl rfl rfl ?_
            refine h_getI (pc' := 4) (v := s0 66 10) rfl rfl rfl rfl rfl rfl (fun z93 hz93 => ?_)
            refine h_bipush (pc' := 6) (x := (Int32.ofInt 8)) rfl rfl cb_8 ?_
            refine h_cge (tg := 29) (pc' := 9) rfl rfl rfl hz93 ci_8 (fun c94 => absurd c94 (by omega)) (fun c94 => ?_)
            clear hz93
            refine h_aload_n (pc' := 10) rfl rfl rfl ?_
            refine h_getR (pc' := 13) rfl rfl rfl rfl rfl ?_
            refine h_aload_n (pc' := 14) rfl rfl rfl ?_
            refine h_getI (pc' := 17) (v := s0 66 10) rfl rfl rfl rfl rfl rfl (fun z95 hz95 => ?_)
            refine h_iload_n (pc' := 18) rfl rfl rfl ?_
            refine h_iast (pc' := 19) rfl rfl rfl rfl hz95 (by omega) (by omega) hz64 (h_fgt (E := fun s => s 64 2 = s0 64 2 ∧ s 64 4 = s0 64 4 ∧ s 64 3 = s0 64 3 ∧ s 64 5 = s0 64 5 ∧ s 63 2 = s0 63 2 ∧ s 63 3 = s0 63 3 ∧ s 64 1 = s0 64 1 ∧ s 66 8 = s0 66 8 ∧ s 66 9 = s0 66 9 ∧ s 66 10 = s0 66 10 ∧ s 69 2 = s0 69 2 ∧ s 72 2 = s0 72 2 ∧ s 63 5 = s0 63 5 ∧ s = h_up s0 78 (s0 66 10) (s0 64 5)) _ (in_78 I0 (by omega)) (F0_.up rfl) ⟨rfl, rfl, rfl, rfl, rfl, rfl, rfl, rfl, rfl, rfl, rfl, rfl, rfl, rfl⟩ (fun s96 Is96 Fs96 (es96 : s96 64 2 = s0 64 2 ∧ s96 64 4 = s0 64 4 ∧ s96 64 3 = s0 64 3 ∧ s96 64 5 = s0 64 5 ∧ s96 63 2 = s0 63 2 ∧ s96 63 3 = s0 63 3 ∧ s96 64 1 = s0 64 1 ∧ s96 66 8 = s0 66 8 ∧ s96 66 9 = s0 66 9 ∧ s96 66 10 = s0 66 10 ∧ s96 69 2 = s0 69 2 ∧ s96 72 2 = s0 72 2 ∧ s96 63 5 = s0 63 5 ∧ s96 = h_up s0 78 (s0 66 10) (s0 64 5)) => ?_))
            have us96 := es96.2.2.2.2.2.2.2.2.2.2.2.2.2
            clear hz95
            refine h_aload_n (pc' := 20) rfl rfl rfl ?_
            refine h_dup (pc' := 21) rfl rfl rfl ?_
            refine h_getI (pc' := 24) (v := s0 66 10) rfl rfl rfl rfl rfl es96.2.2.2.2.2.2.2.2.2.1 (fun z97 hz97 => ?_)
            refine h_iconst (pc' := 25) (x := (Int32.ofInt 1)) rfl rfl rfl ?_
            refine h_iadd (pc' := 26) rfl rfl hz97 ci_1 rfl (by omega) (by omega) (fun z98 hz98 => ?_)
            clear hz97
            refine h_put (pc' := 29) rfl rfl rfl rfl rfl rfl hz98 rfl (h_fgt (E := fun s => s 64 2 = s0 64 2 ∧ s 64 4 = s0 64 4 ∧ s 64 3 = s0 64 3 ∧ s 64 5 = s0 64 5 ∧ s 63 2 = s0 63 2 ∧ s 63 3 = s0 63 3 ∧ s 64 1 = s0 64 1 ∧ s 66 8 = s0 66 8 ∧ s 66 9 = s0 66 9 ∧ s 66 10 = ((s0 66 10) + 1) ∧ s 69 2 = s0 69 2 ∧ s 72 2 = s0 72 2 ∧ s 63 5 = s0 63 5 ∧ s = h_up s96 66 10 ((s0 66 10) + 1)) _ (if_66_10 Is96 (by omega)) (Fs96.up rfl) ⟨es96.1, es96.2.1, es96.2.2.1, es96.2.2.2.1, es96.2.2.2.2.1, es96.2.2.2.2.2.1, es96.2.2.2.2.2.2.1, es96.2.2.2.2.2.2.2.1, es96.2.2.2.2.2.2.2.2.1, rfl, es96.2.2.2.2.2.2.2.2.2.2.1, es96.2.2.2.2.2.2.2.2.2.2.2.1, es96.2.2.2.2.2.2.2.2.2.2.2.2.1, rfl⟩ (fun s99 Is99 Fs99 (es99 : s99 64 2 = s0 64 2 ∧ s99 64 4 = s0 64 4 ∧ s99 64 3 = s0 64 3 ∧ s99 64 5 = s0 64 5 ∧ s99 63 2 = s0 63 2 ∧ s99 63 3 = s0 63 3 ∧ s99 64 1 = s0 64 1 ∧ s99 66 8 = s0 66 8 ∧ s99 66 9 = s0 66 9 ∧ s99 66 10 = ((s0 66 10) + 1) ∧ s99 69 2 = s0 69 2 ∧ s99 72 2 = s0 72 2 ∧ s99 63 5 = s0 63 5 ∧ s99 = h_up s96 66 10 ((s0 66 10) + 1)) => ?_))
            clear es96
            have us99 := es99.2.2.2.2.2.2.2.2.2.2.2.2.2
            refine h_vret rfl rfl (h_Kn ?_)
            refine h_aload_n (pc' := 76) rfl rfl rfl ?_
            refine d_toM (g_inj ns) hl2 hR2 (fun lvw100 memw100 hlw100 hRw100 => ?_)
            show h_T g_P (g_Y ns) 152 0 [(0, .ref 98)] [] t0 _
            refine h_aload_n (pc' := 1) rfl rfl rfl ?_
            refine h_getI (pc' := 4) (v := t0 98 13) rfl rfl rfl rfl rfl rfl (fun z101 hz101 => ?_)
            have tz101 := tf_98_13 J0
            refine h_zne (tg := 167) (pc' := 7) rfl rfl rfl hz101 (fun c102 => absurd (Int.le_antisymm (by omega) (by omega)) c102) (fun c102 => ?_)
            clear hz101
            refine h_aload_n (pc' := 8) rfl rfl rfl ?_
            refine h_getI (pc' := 11) (v := t0 98 17) rfl rfl rfl rfl rfl rfl (fun z103 hz103 => ?_)
            have tz103 := tf_98_17 J0
            refine h_iconst (pc' := 12) (x := (Int32.ofInt 2)) rfl rfl rfl ?_
            refine h_cne (tg := 167) (pc' := 15) rfl rfl rfl hz103 ci_2 (fun c104 => absurd (Int.le_antisymm (by omega) (by omega)) c104) (fun c104 => ?_)
            clear hz103
            refine h_aload_n (pc' := 16) rfl rfl rfl ?_
            refine h_getR (pc' := 19) rfl rfl rfl rfl rfl ?_
            refine h_bipush (pc' := 21) (x := (Int32.ofInt 43)) rfl rfl cb_43 ?_
            refine h_iald (pc' := 22) (v := t0 101 43) rfl rfl rfl ci_43 (by omega) (by omega) rfl (fun z105 hz105 => ?_)
            have tz105 := ty_101_10 J0 43 (by omega)
            refine h_bipush (pc' := 24) (x := (Int32.ofInt 8)) rfl rfl cb_8 ?_
            refine h_cne (tg := 35) (pc' := 27) rfl rfl rfl hz105 ci_8 (fun c106 => ?_) (fun c106 => absurd c106 (by omega))
            clear hz105
            refine h_aload_n (pc' := 36) rfl rfl rfl ?_
            refine h_getI (pc' := 39) (v := t0 98 18) rfl rfl rfl rfl rfl rfl (fun z107 hz107 => ?_)
            have tz107 := tf_98_18 J0
            refine h_bipush (pc' := 41) (x := (Int32.ofInt 10)) rfl rfl cb_10 ?_
            refine h_idiv (pc' := 42) rfl rfl hz107 ci_10 (by omega) (by omega) (fun z108 hz108 => ?_)
            clear hz107
            refine h_bipush (pc' := 44) (x := (Int32.ofInt 6)) rfl rfl cb_6 ?_
            refine h_cge (tg := 58) (pc' := 47) rfl rfl rfl hz108 ci_6 (fun c109 => absurd c109 (by omega)) (fun c109 => ?_)
            clear hz108
            refine h_aload_n (pc' := 48) rfl rfl rfl ?_
            refine h_getI (pc' := 51) (v := t0 98 18) rfl rfl rfl rfl rfl rfl (fun z110 hz110 => ?_)
            refine h_bipush (pc' := 53) (x := (Int32.ofInt 10)) rfl rfl cb_10 ?_
            refine h_irem (pc' := 54) rfl rfl hz110 ci_10 (by omega) (by omega) (fun z111 hz111 => ?_)
            clear hz110
            refine h_iconst (pc' := 55) (x := (Int32.ofInt 3)) rfl rfl rfl ?_
            refine h_clt (tg := 66) (pc' := 58) rfl rfl rfl hz111 ci_3 (fun c112 => ?_) (fun c112 => absurd c112 (by omega))
            clear hz111
            have gH113 : 0 ≤ t0 98 18 ∧ t0 98 18 ≤ 99 := by have ga := tf_98_18 J0; omega
            have oH113 : t0 98 8 = t0 98 8 := rfl
            have vH113 : t0 98 18 = t0 98 18 := rfl
            have uH113 := tf_98_8 J0
            refine h_wk [(0, .ref 98)] ⟨rfl, trivial⟩ (lm_ho _ J0 (by omega) (fun H113 hH113 => (h_fgt (E := fun s => s 98 15 = t0 98 15 ∧ s 98 16 = t0 98 16 ∧ s 98 17 = t0 98 17 ∧ s 98 18 = t0 98 18 ∧ s 98 13 = t0 98 13 ∧ s 98 14 = t0 98 14 ∧ s 98 5 = t0 98 5 ∧ s 98 6 = t0 98 6 ∧ s 98 7 = t0 98 7 ∧ s 98 8 = H113 ∧ s 98 9 = t0 98 9 ∧ s 101 18 = t0 101 18 ∧ s 101 25 = t0 101 25 ∧ s 101 43 = t0 101 43 ∧ s = h_up t0 98 8 H113) _ (if_98_8 J0 (by omega)) (H0_.up rfl) ⟨rfl, rfl, rfl, rfl, rfl, rfl, rfl, rfl, rfl, rfl, rfl, rfl, rfl, rfl, rfl⟩ (fun s114 Is114 Fs114 (es114 : s114 98 15 = t0 98 15 ∧ s114 98 16 = t0 98 16 ∧ s114 98 17 = t0 98 17 ∧ s114 98 18 = t0 98 18 ∧ s114 98 13 = t0 98 13 ∧ s114 98 14 = t0 98 14 ∧ s114 98 5 = t0 98 5 ∧ s114 98 6 = t0 98 6 ∧ s114 98 7 = t0 98 7 ∧ s114 98 8 = H113 ∧ s114 98 9 = t0 98 9 ∧ s114 101 18 = t0 101 18 ∧ s114 101 25 = t0 101 25 ∧ s114 101 43 = t0 101 43 ∧ s114 = h_up t0 98 8 H113) => ?_))))
            have us114 := es114.2.2.2.2.2.2.2.2.2.2.2.2.2.2
            have gH115 : 0 ≤ s114 98 18 ∧ s114 98 18 ≤ 99 := by have ga := es114.2.2.2.1; omega
            have oH115 : s114 98 9 = t0 98 9 := es114.2.2.2.2.2.2.2.2.2.2.1
            have vH115 : s114 98 18 = t0 98 18 := es114.2.2.2.1
            have uH115 := tf_98_9 Is114
            refine h_wk [(0, .ref 98)] ⟨rfl, trivial⟩ (lm_hg _ Is114 (by omega) (fun H115 hH115 => (h_fgt (E := fun s => s 98 15 = t0 98 15 ∧ s 98 16 = t0 98 16 ∧ s 98 17 = t0 98 17 ∧ s 98 18 = t0 98 18 ∧ s 98 13 = t0 98 13 ∧ s 98 14 = t0 98 14 ∧ s 98 5 = t0 98 5 ∧ s 98 6 = t0 98 6 ∧ s 98 7 = t0 98 7 ∧ s 98 8 = H113 ∧ s 98 9 = H115 ∧ s 101 18 = t0 101 18 ∧ s 101 25 = t0 101 25 ∧ s 101 43 = t0 101 43 ∧ s = h_up s114 98 9 H115) _ (if_98_9 Is114 (by omega)) (Fs114.up rfl) ⟨es114.1, es114.2.1, es114.2.2.1, es114.2.2.2.1, es114.2.2.2.2.1, es114.2.2.2.2.2.1, es114.2.2.2.2.2.2.1, es114.2.2.2.2.2.2.2.1, es114.2.2.2.2.2.2.2.2.1, es114.2.2.2.2.2.2.2.2.2.1, rfl, es114.2.2.2.2.2.2.2.2.2.2.2.1, es114.2.2.2.2.2.2.2.2.2.2.2.2.1, es114.2.2.2.2.2.2.2.2.2.2.2.2.2.1, rfl⟩ (fun s116 Is116 Fs116 (es116 : s116 98 15 = t0 98 15 ∧ s116 98 16 = t0 98 16 ∧ s116 98 17 = t0 98 17 ∧ s116 98 18 = t0 98 18 ∧ s116 98 13 = t0 98 13 ∧ s116 98 14 = t0 98 14 ∧ s116 98 5 = t0 98 5 ∧ s116 98 6 = t0 98 6 ∧ s116 98 7 = t0 98 7 ∧ s116 98 8 = H113 ∧ s116 98 9 = H115 ∧ s116 101 18 = t0 101 18 ∧ s116 101 25 = t0 101 25 ∧ s116 101 43 = t0 101 43 ∧ s116 = h_up s114 98 9 H115) => ?_))))
            clear es114
            have us116 := es116.2.2.2.2.2.2.2.2.2.2.2.2.2.2
            refine h_aload_n (pc' := 131) rfl rfl rfl ?_
            refine h_getR (pc' := 134) rfl rfl rfl rfl rfl ?_
            refine h_bipush (pc' := 136) (x := (Int32.ofInt 35)) rfl rfl cb_35 ?_
            refine h_aload_n (pc' := 137) rfl rfl rfl ?_
            refine h_getR (pc' := 140) rfl rfl rfl rfl rfl ?_
            refine h_bipush (pc' := 142) (x := (Int32.ofInt 43)) rfl rfl cb_43 ?_
            refine h_iald (pc' := 143) (v := t0 101 43) rfl rfl rfl ci_43 (by omega) (by omega) es116.2.2.2.2.2.2.2.2.2.2.2.2.2.1 (fun z117 hz117 => ?_)
            refine h_iadd (pc' := 144) rfl rfl ci_35 hz117 rfl (by omega) (by omega) (fun z118 hz118 => ?_)
            clear hz117
            refine h_aload_n (pc' := 145) rfl rfl rfl ?_
            refine h_getI (pc' := 148) (v := t0 98 18) rfl rfl rfl rfl rfl es116.2.2.2.1 (fun z119 hz119 => ?_)
            refine h_iast (pc' := 149) rfl rfl rfl rfl hz118 (by omega) (by omega) hz119 (h_fgt (E := fun s => s 98 15 = t0 98 15 ∧ s 98 16 = t0 98 16 ∧ s 98 17 = t0 98 17 ∧ s 98 18 = t0 98 18 ∧ s 98 13 = t0 98 13 ∧ s 98 14 = t0 98 14 ∧ s 98 5 = t0 98 5 ∧ s 98 6 = t0 98 6 ∧ s 98 7 = t0 98 7 ∧ s 98 8 = H113 ∧ s 98 9 = H115 ∧ s 101 18 = t0 101 18 ∧ s 101 25 = t0 101 25 ∧ s 101 43 = t0 101 43 ∧ s = h_up s116 101 (35 + (t0 101 43)) (t0 98 18)) _ (ip_101_9 Is116 (by omega) (by omega)) (Fs116.up rfl) ⟨es116.1, es116.2.1, es116.2.2.1, es116.2.2.2.1, es116.2.2.2.2.1, es116.2.2.2.2.2.1, es116.2.2.2.2.2.2.1, es116.2.2.2.2.2.2.2.1, es116.2.2.2.2.2.2.2.2.1, es116.2.2.2.2.2.2.2.2.2.1, es116.2.2.2.2.2.2.2.2.2.2.1, h_up_n2 (by omega) es116.2.2.2.2.2.2.2.2.2.2.2.1, h_up_n2 (by omega) es116.2.2.2.2.2.2.2.2.2.2.2.2.1, h_up_n2 (by omega) es116.2.2.2.2.2.2.2.2.2.2.2.2.2.1, rfl⟩ (fun s120 Is120 Fs120 (es120 : s120 98 15 = t0 98 15 ∧ s120 98 16 = t0 98 16 ∧ s120 98 17 = t0 98 17 ∧ s120 98 18 = t0 98 18 ∧ s120 98 13 = t0 98 13 ∧ s120 98 14 = t0 98 14 ∧ s120 98 5 = t0 98 5 ∧ s120 98 6 = t0 98 6 ∧ s120 98 7 = t0 98 7 ∧ s120 98 8 = H113 ∧ s120 98 9 = H115 ∧ s120 101 18 = t0 101 18 ∧ s120 101 25 = t0 101 25 ∧ s120 101 43 = t0 101 43 ∧ s120 = h_up s116 101 (35 + (t0 101 43)) (t0 98 18)) => ?_))
            clear es116
            have us120 := es120.2.2.2.2.2.2.2.2.2.2.2.2.2.2
            clear hz118 hz119
            refine h_aload_n (pc' := 150) rfl rfl rfl ?_
            refine h_getR (pc' := 153) rfl rfl rfl rfl rfl ?_
            refine h_bipush (pc' := 155) (x := (Int32.ofInt 43)) rfl rfl cb_43 ?_
            refine h_dup2 (pc' := 156) rfl rfl rfl ?_
            refine h_iald (pc' := 157) (v := t0 101 43) rfl rfl rfl ci_43 (by omega) (by omega) es120.2.2.2.2.2.2.2.2.2.2.2.2.2.1 (fun z121 hz121 => ?_)
            refine h_iconst (pc' := 158) (x := (Int32.ofInt 1)) rfl rfl rfl ?_
            refine h_iadd (pc' := 159) rfl rfl hz121 ci_1 rfl (by omega) (by omega) (fun z122 hz122 => ?_)
            clear hz121
            refine h_iast (pc' := 160) rfl rfl rfl rfl ci_43 (by omega) (by omega) hz122 (h_fgt (E := fun s => s 98 15 = t0 98 15 ∧ s 98 16 = t0 98 16 ∧ s 98 17 = t0 98 17 ∧ s 98 18 = t0 98 18 ∧ s 98 13 = t0 98 13 ∧ s 98 14 = t0 98 14 ∧ s 98 5 = t0 98 5 ∧ s 98 6 = t0 98 6 ∧ s 98 7 = t0 98 7 ∧ s 98 8 = H113 ∧ s 98 9 = H115 ∧ s 101 18 = t0 101 18 ∧ s 101 25 = t0 101 25 ∧ s 101 43 = ((t0 101 43) + 1) ∧ s = h_up s120 101 43 ((t0 101 43) + 1)) _ (ip_101_10 Is120 (by omega) (by omega)) (Fs120.up rfl) ⟨es120.1, es120.2.1, es120.2.2.1, es120.2.2.2.1, es120.2.2.2.2.1, es120.2.2.2.2.2.1, es120.2.2.2.2.2.2.1, es120.2.2.2.2.2.2.2.1, es120.2.2.2.2.2.2.2.2.1, es120.2.2.2.2.2.2.2.2.2.1, es120.2.2.2.2.2.2.2.2.2.2.1, es120.2.2.2.2.2.2.2.2.2.2.2.1, es120.2.2.2.2.2.2.2.2.2.2.2.2.1, rfl, rfl⟩ (fun s123 Is123 Fs123 (es123 : s123 98 15 = t0 98 15 ∧ s123 98 16 = t0 98 16 ∧ s123 98 17 = t0 98 17 ∧ s123 98 18 = t0 98 18 ∧ s123 98 13 = t0 98 13 ∧ s123 98 14 = t0 98 14 ∧ s123 98 5 = t0 98 5 ∧ s123 98 6 = t0 98 6 ∧ s123 98 7 = t0 98 7 ∧ s123 98 8 = H113 ∧ s123 98 9 = H115 ∧ s123 101 18 = t0 101 18 ∧ s123 101 25 = t0 101 25 ∧ s123 101 43 = ((t0 101 43) + 1) ∧ s123 = h_up s120 101 43 ((t0 101 43) + 1)) => ?_))
            clear es120
            have us123 := es123.2.2.2.2.2.2.2.2.2.2.2.2.2.2
            refine h_aload_n (pc' := 161) rfl rfl rfl ?_
            refine d_pcall (g_inj ns) (m1 := 54) (pc1' := 79) (M1 := [(0, .ref 63)]) (rest1 := []) (m2 := 148) (pc2' := 164) (M2 := [(0, .ref 98)]) (rest2 := []) ⟨false, _, _, _, _, _, _, rfl, rfl, rfl, rfl, rfl, rfl, rfl⟩ ⟨false, _, _, _, _, _, _, rfl, rfl, rfl, rfl, rfl, rfl, rfl⟩ hRw100 ?_
            refine pp_step Is99 Is123 (hTL.fr (Fs99.mono rfl) (Fs123.mono rfl)) (Int.le_antisymm (by omega) (by omega)) (Int.le_antisymm (by omega) (by omega)) (Int.le_antisymm (by omega) (by omega)) (by omega) (Or.inr ⟨Int.le_antisymm (by omega) (by omega), Int.le_antisymm (by omega) (by omega)⟩) (fun sq124 tq124 Isq124 Itq124 Gsq124 Gtq124 yq124_0 yq124_1 yq124_2 yq124_3 yq124_4 pcq124 memq124 hRq124 => ?_)
            have Fsq124 := (Gsq124.mono (B := k_pl) rfl).tr Fs99
            have Ftq124 := (Gtq124.mono (B := k_pm) rfl).tr Fs123
            have esq124_6 : sq124 64 1 = s0 64 1 := (Gsq124 64 1 rfl).trans es99.2.2.2.2.2.2.1
            have esq124_7 : sq124 66 8 = s0 66 8 := (Gsq124 66 8 rfl).trans es99.2.2.2.2.2.2.2.1
            have esq124_8 : sq124 66 9 = s0 66 9 := (Gsq124 66 9 rfl).trans es99.2.2.2.2.2.2.2.2.1
            have esq124_9 : sq124 66 10 = ((s0 66 10) + 1) := (Gsq124 66 10 rfl).trans es99.2.2.2.2.2.2.2.2.2.1
            have esq124_10 : sq124 69 2 = s0 69 2 := (Gsq124 69 2 rfl).trans es99.2.2.2.2.2.2.2.2.2.2.1
            have esq124_11 : sq124 72 2 = s0 72 2 := (Gsq124 72 2 rfl).trans es99.2.2.2.2.2.2.2.2.2.2.2.1
            have esq124_12 : sq124 63 5 = s0 63 5 := (Gsq124 63 5 rfl).trans es99.2.2.2.2.2.2.2.2.2.2.2.2.1
            have etq124_6 : tq124 98 5 = t0 98 5 := (Gtq124 98 5 rfl).trans es123.2.2.2.2.2.2.1
            have etq124_7 : tq124 98 6 = t0 98 6 := (Gtq124 98 6 rfl).trans es123.2.2.2.2.2.2.2.1
            have etq124_8 : tq124 98 7 = t0 98 7 := (Gtq124 98 7 rfl).trans es123.2.2.2.2.2.2.2.2.1
            have etq124_9 : tq124 98 8 = H113 := (Gtq124 98 8 rfl).trans es123.2.2.2.2.2.2.2.2.2.1
            have etq124_10 : tq124 98 9 = H115 := (Gtq124 98 9 rfl).trans es123.2.2.2.2.2.2.2.2.2.2.1
            have etq124_11 : tq124 101 18 = t0 101 18 := (Gtq124 101 18 rfl).trans es123.2.2.2.2.2.2.2.2.2.2.2.1
            have etq124_12 : tq124 101 25 = t0 101 25 := (Gtq124 101 25 rfl).trans es123.2.2.2.2.2.2.2.2.2.2.2.2.1
            have etq124_13 : tq124 101 43 = ((t0 101 43) + 1) := (Gtq124 101 43 rfl).trans es123.2.2.2.2.2.2.2.2.2.2.2.2.2.1
            show h_T g_P (g_Y ns) 152 164 [(0, .ref 98)] [] tq124 _
            refine h_goto (pc' := 0) rfl rfl ?_
            refine d_toL (g_inj ns) hlw100 hRq124 (fun lvw125 memw125 hlw125 hRw125 => ?_)
            show h_T g_P (g_Y ns) 63 79 [(1, .int z64), (0, .ref 63)] [] sq124 _
            refine h_vret rfl rfl (d_retn hlv63 ?_)
            clear hz64
            refine h_iinc (pc' := 50) (M := fun z126 => [(1, .int z126), (0, .ref 63)]) rfl rfl rfl rfl hx1 ci_1 rfl (by omega) (by omega) (fun _ => rfl) (fun z126 hz126 => ?_)
            refine h_goto (pc' := 30) rfl rfl ?_
            exact h_wk [(0, .ref 63), (1, .int z126)] ⟨rfl, rfl, trivial⟩ (ih _ _ Isq124 Itq124 Fsq124 Ftq124 z126 _ hz126  (Int.le_antisymm (by omega) (by omega)) (Int.le_antisymm (by omega) (by omega)) (Int.le_antisymm (by omega) (by omega)) (by omega) (Int.le_antisymm (by omega) (by omega)) (Int.le_antisymm (by omega) (by omega)) (⟨by omega, by omega⟩) (by omega) (by omega) (fun _ => d_mk (esq124_7) (esq124_8) (esq124_9) (esq124_10) (esq124_11) (esq124_12) (fun j => (Gsq124 67 j rfl).trans ((h_upo us99 rfl j).trans ((h_upo us96 rfl j)))) (fun j => (Gsq124 68 j rfl).trans ((h_upo us99 rfl j).trans ((h_upo us96 rfl j)))) (fun j => (Gsq124 70 j rfl).trans ((h_upo us99 rfl j).trans ((h_upo us96 rfl j)))) (fun j => (Gsq124 71 j rfl).trans ((h_upo us99 rfl j).trans ((h_upo us96 rfl j)))) (fun j => (Gsq124 73 j rfl).trans ((h_upo us99 rfl j).trans ((h_upo us96 rfl j)))) (fun j => (Gsq124 74 j rfl).trans ((h_upo us99 rfl j).trans ((h_upo us96 rfl j)))) (fun j => (Gsq124 75 j rfl).trans ((h_upo us99 rfl j).trans ((h_upo us96 rfl j)))) (fun j => (Gsq124 76 j rfl).trans ((h_upo us99 rfl j).trans ((h_upo us96 rfl j)))) (fun j => (Gsq124 77 j rfl).trans ((h_upo us99 rfl j).trans ((h_upo us96 rfl j)))) (fun j => (Gsq124 78 j rfl).trans ((h_upo us99 rfl j).trans ((h_upi us96 j)))) (etq124_6) (etq124_7) (etq124_8) (etq124_9) (etq124_10) (fun j => (Gtq124 101 j rfl).trans ((h_upi us123 j).trans (congrArg (fun z => if j = 43 then ((t0 101 43) + 1) else z) ((h_upi us120 j).trans (congrArg (fun z => if j = (35 + (t0 101 43)) then (t0 98 18) else z) ((h_upo us116 rfl j).trans ((h_upo us114 rfl j)))))))) (r_act (ex9 (by omega)) (by omega) (by omega) (by omega) (by omega) (by omega) (by omega) (by omega) (by omega) (by omega) (by omega) (by omega) (by omega) (by omega) (by omega) (by omega) (by omega) (by omega))) (pcq124.elim (fun pcq124 => (Or.inl ⟨⟨by omega, by omega⟩, ⟨by omega, by omega⟩, Int.le_antisymm (by omega) (by omega), Int.le_antisymm (by omega) (by omega)⟩)) (fun pcq124 => (pcq124.elim (fun pcq124 => (Or.inr (Or.inl ⟨Int.le_antisymm (by omega) (by omega), Int.le_antisymm (by omega) (by omega), Int.le_antisymm (by omega) (by omega), Int.le_antisymm (by omega) (by omega), Int.le_antisymm (by omega) (by omega), Int.le_antisymm (by omega) (by omega)⟩))) (fun pcq124 => (pcq124.elim (fun pcq124 => (Or.inr (Or.inr (Or.inl ⟨Int.le_antisymm (by omega) (by omega), Int.le_antisymm (by omega) (by omega), Int.le_antisymm (by omega) (by omega), Int.le_antisymm (by omega) (by omega), Int.le_antisymm (by omega) (by omega), by omega, by omega⟩)))) (fun pcq124 => (pcq124.elim (fun pcq124 => (Or.inr (Or.inr (Or.inr (Or.inl ⟨Int.le_antisymm (by omega) (by omega), Int.le_antisymm (by omega) (by omega), Int.le_antisymm (by omega) (by omega), Int.le_antisymm (by omega) (by omega), ⟨by omega, by omega⟩, ⟨by omega, by omega⟩, Int.le_antisymm (by omega) (by omega), Int.le_antisymm (by omega) (by omega), by omega, by omega⟩))))) (fun pcq124 => (Or.inr (Or.inr (Or.inr (Or.inr ⟨Int.le_antisymm (by omega) (by omega), Int.le_antisymm (by omega) (by omega), Int.le_antisymm (by omega) (by omega), Int.le_antisymm (by omega) (by omega), Int.le_antisymm (by omega) (by omega), by omega, by omega⟩)))))))))))) (by omega) _ _ (h_al_ok ⟨rfl, trivial⟩ hlw125) hRw125)
          · clear hz91
            refine h_aload_n (pc' := 53) rfl rfl rfl ?_
            refine h_iconst (pc' := 54) (x := (Int32.ofInt 3)) rfl rfl rfl ?_
            refine h_aload_n (pc' := 55) rfl rfl rfl ?_
            refine h_getR (pc' := 58) rfl rfl rfl rfl rfl ?_
            refine h_getI (pc' := 61) (v := s0 64 4) rfl rfl rfl rfl rfl rfl (fun z127 hz127 => ?_)
            have tz127 := tf_64_4 I0
            refine h_call (sp := false) (pc' := 64) (M := [(0, .ref 63), (1, .int (Int32.ofInt 3)), (2, .int z127)]) rfl rfl rfl rfl rfl rfl rfl rfl ?_
            refine h_aload_n (pc' := 1) rfl rfl rfl ?_
            refine h_getI (pc' := 4) (v := s0 63 2) rfl rfl rfl rfl rfl rfl (fun z128 hz128 => ?_)
            refine h_zne (tg := 17) (pc' := 7) rfl rfl rfl hz128 (fun c129 => absurd (Int.le_antisymm (by omega) (by omega)) c129) (fun c129 => ?_)
            clear hz128
            refine h_aload_n (pc' := 8) rfl rfl rfl ?_
            refine h_iload_n (pc' := 9) rfl rfl rfl ?_
            refine h_put (pc' := 12) rfl rfl rfl rfl rfl rfl ci_3 rfl (h_fgt (E := fun s => s 64 2 = s0 64 2 ∧ s 64 4 = s0 64 4 ∧ s 64 3 = s0 64 3 ∧ s 64 5 = s0 64 5 ∧ s 63 2 = 3 ∧ s 63 3 = s0 63 3 ∧ s 64 1 = s0 64 1 ∧ s 66 8 = s0 66 8 ∧ s 66 9 = s0 66 9 ∧ s 66 10 = s0 66 10 ∧ s 69 2 = s0 69 2 ∧ s 72 2 = s0 72 2 ∧ s 63 5 = s0 63 5 ∧ s = h_up s0 63 2 3) _ (if_63_2 I0 (by omega)) (F0_.up rfl) ⟨rfl, rfl, rfl, rfl, rfl, rfl, rfl, rfl, rfl, rfl, rfl, rfl, rfl, rfl⟩ (fun s130 Is130 Fs130 (es130 : s130 64 2 = s0 64 2 ∧ s130 64 4 = s0 64 4 ∧ s130 64 3 = s0 64 3 ∧ s130 64 5 = s0 64 5 ∧ s130 63 2 = 3 ∧ s130 63 3 = s0 63 3 ∧ s130 64 1 = s0 64 1 ∧ s130 66 8 = s0 66 8 ∧ s130 66 9 = s0 66 9 ∧ s130 66 10 = s0 66 10 ∧ s130 69 2 = s0 69 2 ∧ s130 72 2 = s0 72 2 ∧ s130 63 5 = s0 63 5 ∧ s130 = h_up s0 63 2 3) => ?_))
            have us130 := es130.2.2.2.2.2.2.2.2.2.2.2.2.2
            refine h_aload_n (pc' := 13) rfl rfl rfl ?_
            refine h_iload_n (pc' := 14) rfl rfl rfl ?_
            refine h_put (pc' := 17) rfl rfl rfl rfl rfl rfl hz127 rfl (h_fgt (E := fun s => s 64 2 = s0 64 2 ∧ s 64 4 = s0 64 4 ∧ s 64 3 = s0 64 3 ∧ s 64 5 = s0 64 5 ∧ s 63 2 = 3 ∧ s 63 3 = (s0 64 4) ∧ s 64 1 = s0 64 1 ∧ s 66 8 = s0 66 8 ∧ s 66 9 = s0 66 9 ∧ s 66 10 = s0 66 10 ∧ s 69 2 = s0 69 2 ∧ s 72 2 = s0 72 2 ∧ s 63 5 = s0 63 5 ∧ s = h_up s130 63 3 (s0 64 4)) _ (if_63_3 Is130 (h_rgv hz127)) (Fs130.up rfl) ⟨es130.1, es130.2.1, es130.2.2.1, es130.2.2.2.1, es130.2.2.2.2.1, rfl, es130.2.2.2.2.2.2.1, es130.2.2.2.2.2.2.2.1, es130.2.2.2.2.2.2.2.2.1, es130.2.2.2.2.2.2.2.2.2.1, es130.2.2.2.2.2.2.2.2.2.2.1, es130.2.2.2.2.2.2.2.2.2.2.2.1, es130.2.2.2.2.2.2.2.2.2.2.2.2.1, rfl⟩ (fun s131 Is131 Fs131 (es131 : s131 64 2 = s0 64 2 ∧ s131 64 4 = s0 64 4 ∧ s131 64 3 = s0 64 3 ∧ s131 64 5 = s0 64 5 ∧ s131 63 2 = 3 ∧ s131 63 3 = (s0 64 4) ∧ s131 64 1 = s0 64 1 ∧ s131 66 8 = s0 66 8 ∧ s131 66 9 = s0 66 9 ∧ s131 66 10 = s0 66 10 ∧ s131 69 2 = s0 69 2 ∧ s131 72 2 = s0 72 2 ∧ s131 63 5 = s0 63 5 ∧ s131 = h_up s130 63 3 (s0 64 4)) => ?_))
            clear es130
            have us131 := es131.2.2.2.2.2.2.2.2.2.2.2.2.2
            refine h_vret rfl rfl (h_Kn ?_)
            refine h_goto (pc' := 79) rfl rfl ?_
            refine h_vret rfl rfl (d_retn hlv63 ?_)
            clear hz64
            refine h_iinc (pc' := 50) (M := fun z132 => [(1, .int z132), (0, .ref 63)]) rfl rfl rfl rfl hx1 ci_1 rfl (by omega) (by omega) (fun _ => rfl) (fun z132 hz132 => ?_)
            refine h_goto (pc' := 30) rfl rfl ?_
            refine d_toM (g_inj ns) hl2 hR2 (fun lvw133 memw133 hlw133 hRw133 => ?_)
            show h_T g_P (g_Y ns) 152 0 [(0, .ref 98)] [] t0 _
            refine h_aload_n (pc' := 1) rfl rfl rfl ?_
            refine h_getI (pc' := 4) (v := t0 98 13) rfl rfl rfl rfl rfl rfl (fun z134 hz134 => ?_)
            have tz134 := tf_98_13 J0
            refine h_zne (tg := 167) (pc' := 7) rfl rfl rfl hz134 (fun c135 => absurd (Int.le_antisymm (by omega) (by omega)) c135) (fun c135 => ?_)
            clear hz134
            refine h_aload_n (pc' := 8) rfl rfl rfl ?_
            refine h_getI (pc' := 11) (v := t0 98 17) rfl rfl rfl rfl rfl rfl (fun z136 hz136 => ?_)
            have tz136 := tf_98_17 J0
            refine h_iconst (pc' := 12) (x := (Int32.ofInt 2)) rfl rfl rfl ?_
            refine h_cne (tg := 167) (pc' := 15) rfl rfl rfl hz136 ci_2 (fun c137 => absurd (Int.le_antisymm (by omega) (by omega)) c137) (fun c137 => ?_)
            clear hz136
            refine h_aload_n (pc' := 16) rfl rfl rfl ?_
            refine h_getR (pc' := 19) rfl rfl rfl rfl rfl ?_
            refine h_bipush (pc' := 21) (x := (Int32.ofInt 43)) rfl rfl cb_43 ?_
            refine h_iald (pc' := 22) (v := t0 101 43) rfl rfl rfl ci_43 (by omega) (by omega) rfl (fun z138 hz138 => ?_)
            have tz138 := ty_101_10 J0 43 (by omega)
            refine h_bipush (pc' := 24) (x := (Int32.ofInt 8)) rfl rfl cb_8 ?_
            refine h_cne (tg := 35) (pc' := 27) rfl rfl rfl hz138 ci_8 (fun c139 => ?_) (fun c139 => absurd c139 (by omega))
            clear hz138
            refine h_aload_n (pc' := 36) rfl rfl rfl ?_
            refine h_getI (pc' := 39) (v := t0 98 18) rfl rfl rfl rfl rfl rfl (fun z140 hz140 => ?_)
            have tz140 := tf_98_18 J0
            refine h_bipush (pc' := 41) (x := (Int32.ofInt 10)) rfl rfl cb_10 ?_
            refine h_idiv (pc' := 42) rfl rfl hz140 ci_10 (by omega) (by omega) (fun z141 hz141 => ?_)
            clear hz140
            refine h_bipush (pc' := 44) (x := (Int32.ofInt 6)) rfl rfl cb_6 ?_
            refine h_cge (tg := 58) (pc' := 47) rfl rfl rfl hz141 ci_6 (fun c142 => absurd c142 (by omega)) (fun c142 => ?_)
            clear hz141
            refine h_aload_n (pc' := 48) rfl rfl rfl ?_
            refine h_getI (pc' := 51) (v := t0 98 18) rfl rfl rfl rfl rfl rfl (fun z143 hz143 => ?_)
            refine h_bipush (pc' := 53) (x := (Int32.ofInt 10)) rfl rfl cb_10 ?_
            refine h_irem (pc' := 54) rfl rfl hz143 ci_10 (by omega) (by omega) (fun z144 hz144 => ?_)
            clear hz143
            refine h_iconst (pc' := 55) (x := (Int32.ofInt 3)) rfl rfl rfl ?_
            refine h_clt (tg := 66) (pc' := 58) rfl rfl rfl hz144 ci_3 (fun c145 => absurd c145 (by omega)) (fun c145 => ?_)
            clear hz144
            refine h_aload_n (pc' := 59) rfl rfl rfl ?_
            refine h_iconst (pc' := 60) (x := (Int32.ofInt 3)) rfl rfl rfl ?_
            refine h_call (sp := false) (pc' := 63) (M := [(0, .ref 98), (1, .int (Int32.ofInt 3))]) rfl rfl rfl rfl rfl rfl rfl rfl ?_
            refine h_aload_n (pc' := 1) rfl rfl rfl ?_
            refine h_getI (pc' := 4) (v := t0 98 13) rfl rfl rfl rfl rfl rfl (fun z146 hz146 => ?_)
            refine h_zne (tg := 20) (pc' := 7) rfl rfl rfl hz146 (fun c147 => absurd (Int.le_antisymm (by omega) (by omega)) c147) (fun c147 => ?_)
            clear hz146
            refine h_aload_n (pc' := 8) rfl rfl rfl ?_
            refine h_iload_n (pc' := 9) rfl rfl rfl ?_
            refine h_put (pc' := 12) rfl rfl rfl rfl rfl rfl ci_3 rfl (h_fgt (E := fun s => s 98 15 = t0 98 15 ∧ s 98 16 = t0 98 16 ∧ s 98 17 = t0 98 17 ∧ s 98 18 = t0 98 18 ∧ s 98 13 = 3 ∧ s 98 14 = t0 98 14 ∧ s 98 5 = t0 98 5 ∧ s 98 6 = t0 98 6 ∧ s 98 7 = t0 98 7 ∧ s 98 8 = t0 98 8 ∧ s 98 9 = t0 98 9 ∧ s 101 18 = t0 101 18 ∧ s 101 25 = t0 101 25 ∧ s 101 43 = t0 101 43 ∧ s = h_up t0 98 13 3) _ (if_98_13 J0 (by omega)) (H0_.up rfl) ⟨rfl, rfl, rfl, rfl, rfl, rfl, rfl, rfl, rfl, rfl, rfl, rfl, rfl, rfl, rfl⟩ (fun s148 Is148 Fs148 (es148 : s148 98 15 = t0 98 15 ∧ s148 98 16 = t0 98 16 ∧ s148 98 17 = t0 98 17 ∧ s148 98 18 = t0 98 18 ∧ s148 98 13 = 3 ∧ s148 98 14 = t0 98 14 ∧ s148 98 5 = t0 98 5 ∧ s148 98 6 = t0 98 6 ∧ s148 98 7 = t0 98 7 ∧ s148 98 8 = t0 98 8 ∧ s148 98 9 = t0 98 9 ∧ s148 101 18 = t0 101 18 ∧ s148 101 25 = t0 101 25 ∧ s148 101 43 = t0 101 43 ∧ s148 = h_up t0 98 13 3) => ?_))
            have us148 := es148.2.2.2.2.2.2.2.2.2.2.2.2.2.2
            refine h_aload_n (pc' := 13) rfl rfl rfl ?_
            refine h_aload_n (pc' := 14) rfl rfl rfl ?_
            refine h_getI (pc' := 17) (v := t0 98 16) rfl rfl rfl rfl rfl es148.2.1 (fun z149 hz149 => ?_)
            have tz149 := tf_98_16 J0
            refine h_put (pc' := 20) rfl rfl rfl rfl rfl rfl hz149 rfl (h_fgt (E := fun s => s 98 15 = t0 98 15 ∧ s 98 16 = t0 98 16 ∧ s 98 17 = t0 98 17 ∧ s 98 18 = t0 98 18 ∧ s 98 13 = 3 ∧ s 98 14 = (t0 98 16) ∧ s 98 5 = t0 98 5 ∧ s 98 6 = t0 98 6 ∧ s 98 7 = t0 98 7 ∧ s 98 8 = t0 98 8 ∧ s 98 9 = t0 98 9 ∧ s 101 18 = t0 101 18 ∧ s 101 25 = t0 101 25 ∧ s 101 43 = t0 101 43 ∧ s = h_up s148 98 14 (t0 98 16)) _ (if_98_14 Is148 (h_rgv hz149)) (Fs148.up rfl) ⟨es148.1, es148.2.1, es148.2.2.1, es148.2.2.2.1, es148.2.2.2.2.1, rfl, es148.2.2.2.2.2.2.1, es148.2.2.2.2.2.2.2.1, es148.2.2.2.2.2.2.2.2.1, es148.2.2.2.2.2.2.2.2.2.1, es148.2.2.2.2.2.2.2.2.2.2.1, es148.2.2.2.2.2.2.2.2.2.2.2.1, es148.2.2.2.2.2.2.2.2.2.2.2.2.1, es148.2.2.2.2.2.2.2.2.2.2.2.2.2.1, rfl⟩ (fun s150 Is150 Fs150 (es150 : s150 98 15 = t0 98 15 ∧ s150 98 16 = t0 98 16 ∧ s150 98 17 = t0 98 17 ∧ s150 98 18 = t0 98 18 ∧ s150 98 13 = 3 ∧ s150 98 14 = (t0 98 16) ∧ s150 98 5 = t0 98 5 ∧ s150 98 6 = t0 98 6 ∧ s150 98 7 = t0 98 7 ∧ s150 98 8 = t0 98 8 ∧ s150 98 9 = t0 98 9 ∧ s150 101 18 = t0 101 18 ∧ s150 101 25 = t0 101 25 ∧ s150 101 43 = t0 101 43 ∧ s150 = h_up s148 98 14 (t0 98 16)) => ?_))
            clear es148
            have us150 := es150.2.2.2.2.2.2.2.2.2.2.2.2.2.2
            refine h_vret rfl rfl (h_Kn ?_)
            refine h_goto (pc' := 0) rfl rfl ?_
            refine d_toL (g_inj ns) hlw133 hRw133 (fun lvw151 memw151 hlw151 hRw151 => ?_)
            show h_T g_P (g_Y ns) 62 30 [(1, .int z132), (0, .ref 63)] [] s131 _
            exact h_wk [(0, .ref 63), (1, .int z132)] ⟨rfl, rfl, trivial⟩ (ih _ _ Is131 Is150 Fs131 Fs150 z132 _ hz132  (Int.le_antisymm (by omega) (by omega)) (Int.le_antisymm (by omega) (by omega)) (Int.le_antisymm (by omega) (by omega)) (by omega) (Int.le_antisymm (by omega) (by omega)) (Int.le_antisymm (by omega) (by omega)) (⟨by omega, by omega⟩) (by omega) (by omega) (fun h => absurd h (by omega)) (Or.inl ⟨⟨by omega, by omega⟩, ⟨by omega, by omega⟩, Int.le_antisymm (by omega) (by omega), Int.le_antisymm (by omega) (by omega)⟩) (by omega) _ _ (h_al_ok ⟨rfl, trivial⟩ hlw151) hRw151)
      · clear hz65
        refine h_aload_n (pc' := 21) rfl rfl rfl ?_
        refine h_iconst (pc' := 22) (x := (Int32.ofInt 5)) rfl rfl rfl ?_
        refine h_aload_n (pc' := 23) rfl rfl rfl ?_
        refine h_getR (pc' := 26) rfl rfl rfl rfl rfl ?_
        refine h_getI (pc' := 29) (v := s0 64 4) rfl rfl rfl rfl rfl rfl (fun z152 hz152 => ?_)
        have tz152 := tf_64_4 I0
        refine h_call (sp := false) (pc' := 32) (M := [(0, .ref 63), (1, .int (Int32.ofInt 5)), (2, .int z152)]) rfl rfl rfl rfl rfl rfl rfl rfl ?_
        refine h_aload_n (pc' := 1) rfl rfl rfl ?_
        refine h_getI (pc' := 4) (v := s0 63 2) rfl rfl rfl rfl rfl rfl (fun z153 hz153 => ?_)
        refine h_zne (tg := 17) (pc' := 7) rfl rfl rfl hz153 (fun c154 => absurd (Int.le_antisymm (by omega) (by omega)) c154) (fun c154 => ?_)
        clear hz153
        refine h_aload_n (pc' := 8) rfl rfl rfl ?_
        refine h_iload_n (pc' := 9) rfl rfl rfl ?_
        refine h_put (pc' := 12) rfl rfl rfl rfl rfl rfl ci_5 rfl (h_fgt (E := fun s => s 64 2 = s0 64 2 ∧ s 64 4 = s0 64 4 ∧ s 64 3 = s0 64 3 ∧ s 64 5 = s0 64 5 ∧ s 63 2 = 5 ∧ s 63 3 = s0 63 3 ∧ s 64 1 = s0 64 1 ∧ s 66 8 = s0 66 8 ∧ s 66 9 = s0 66 9 ∧ s 66 10 = s0 66 10 ∧ s 69 2 = s0 69 2 ∧ s 72 2 = s0 72 2 ∧ s 63 5 = s0 63 5 ∧ s = h_up s0 63 2 5) _ (if_63_2 I0 (by omega)) (F0_.up rfl) ⟨rfl, rfl, rfl, rfl, rfl, rfl, rfl, rfl, rfl, rfl, rfl, rfl, rfl, rfl⟩ (fun s155 Is155 Fs155 (es155 : s155 64 2 = s0 64 2 ∧ s155 64 4 = s0 64 4 ∧ s155 64 3 = s0 64 3 ∧ s155 64 5 = s0 64 5 ∧ s155 63 2 = 5 ∧ s155 63 3 = s0 63 3 ∧ s155 64 1 = s0 64 1 ∧ s155 66 8 = s0 66 8 ∧ s155 66 9 = s0 66 9 ∧ s155 66 10 = s0 66 10 ∧ s155 69 2 = s0 69 2 ∧ s155 72 2 = s0 72 2 ∧ s155 63 5 = s0 63 5 ∧ s155 = h_up s0 63 2 5) => ?_))
        have us155 := es155.2.2.2.2.2.2.2.2.2.2.2.2.2
        refine h_aload_n (pc' := 13) rfl rfl rfl ?_
        refine h_iload_n (pc' := 14) rfl rfl rfl ?_
        refine h_put (pc' := 17) rfl rfl rfl rfl rfl rfl hz152 rfl (h_fgt (E := fun s => s 64 2 = s0 64 2 ∧ s 64 4 = s0 64 4 ∧ s 64 3 = s0 64 3 ∧ s 64 5 = s0 64 5 ∧ s 63 2 = 5 ∧ s 63 3 = (s0 64 4) ∧ s 64 1 = s0 64 1 ∧ s 66 8 = s0 66 8 ∧ s 66 9 = s0 66 9 ∧ s 66 10 = s0 66 10 ∧ s 69 2 = s0 69 2 ∧ s 72 2 = s0 72 2 ∧ s 63 5 = s0 63 5 ∧ s = h_up s155 63 3 (s0 64 4)) _ (if_63_3 Is155 (h_rgv hz152)) (Fs155.up rfl) ⟨es155.1, es155.2.1, es155.2.2.1, es155.2.2.2.1, es155.2.2.2.2.1, rfl, es155.2.2.2.2.2.2.1, es155.2.2.2.2.2.2.2.1, es155.2.2.2.2.2.2.2.2.1, es155.2.2.2.2.2.2.2.2.2.1, es155.2.2.2.2.2.2.2.2.2.2.1, es155.2.2.2.2.2.2.2.2.2.2.2.1, es155.2.2.2.2.2.2.2.2.2.2.2.2.1, rfl⟩ (fun s156 Is156 Fs156 (es156 : s156 64 2 = s0 64 2 ∧ s156 64 4 = s0 64 4 ∧ s156 64 3 = s0 64 3 ∧ s156 64 5 = s0 64 5 ∧ s156 63 2 = 5 ∧ s156 63 3 = (s0 64 4) ∧ s156 64 1 = s0 64 1 ∧ s156 66 8 = s0 66 8 ∧ s156 66 9 = s0 66 9 ∧ s156 66 10 = s0 66 10 ∧ s156 69 2 = s0 69 2 ∧ s156 72 2 = s0 72 2 ∧ s156 63 5 = s0 63 5 ∧ s156 = h_up s155 63 3 (s0 64 4)) => ?_))
        clear es155
        have us156 := es156.2.2.2.2.2.2.2.2.2.2.2.2.2
        refine h_vret rfl rfl (h_Kn ?_)
        refine h_goto (pc' := 79) rfl rfl ?_
        refine h_vret rfl rfl (d_retn hlv63 ?_)
        clear hz64
        refine h_iinc (pc' := 50) (M := fun z157 => [(1, .int z157), (0, .ref 63)]) rfl rfl rfl rfl hx1 ci_1 rfl (by omega) (by omega) (fun _ => rfl) (fun z157 hz157 => ?_)
        refine h_goto (pc' := 30) rfl rfl ?_
        refine d_toM (g_inj ns) hl2 hR2 (fun lvw158 memw158 hlw158 hRw158 => ?_)
        show h_T g_P (g_Y ns) 152 0 [(0, .ref 98)] [] t0 _
        refine h_aload_n (pc' := 1) rfl rfl rfl ?_
        refine h_getI (pc' := 4) (v := t0 98 13) rfl rfl rfl rfl rfl rfl (fun z159 hz159 => ?_)
        have tz159 := tf_98_13 J0
        refine h_zne (tg := 167) (pc' := 7) rfl rfl rfl hz159 (fun c160 => absurd (Int.le_antisymm (by omega) (by omega)) c160) (fun c160 => ?_)
        clear hz159
        refine h_aload_n (pc' := 8) rfl rfl rfl ?_
        refine h_getI (pc' := 11) (v := t0 98 17) rfl rfl rfl rfl rfl rfl (fun z161 hz161 => ?_)
        have tz161 := tf_98_17 J0
        refine h_iconst (pc' := 12) (x := (Int32.ofInt 2)) rfl rfl rfl ?_
        refine h_cne (tg := 167) (pc' := 15) rfl rfl rfl hz161 ci_2 (fun c162 => absurd (Int.le_antisymm (by omega) (by omega)) c162) (fun c162 => ?_)
        clear hz161
        refine h_aload_n (pc' := 16) rfl rfl rfl ?_
        refine h_getR (pc' := 19) rfl rfl rfl rfl rfl ?_
        refine h_bipush (pc' := 21) (x := (Int32.ofInt 43)) rfl rfl cb_43 ?_
        refine h_iald (pc' := 22) (v := t0 101 43) rfl rfl rfl ci_43 (by omega) (by omega) rfl (fun z163 hz163 => ?_)
        have tz163 := ty_101_10 J0 43 (by omega)
        refine h_bipush (pc' := 24) (x := (Int32.ofInt 8)) rfl rfl cb_8 ?_
        refine h_cne (tg := 35) (pc' := 27) rfl rfl rfl hz163 ci_8 (fun c164 => absurd (Int.le_antisymm (by omega) (by omega)) c164) (fun c164 => ?_)
        clear hz163
        refine h_aload_n (pc' := 28) rfl rfl rfl ?_
        refine h_iconst (pc' := 29) (x := (Int32.ofInt 5)) rfl rfl rfl ?_
        refine h_call (sp := false) (pc' := 32) (M := [(0, .ref 98), (1, .int (Int32.ofInt 5))]) rfl rfl rfl rfl rfl rfl rfl rfl ?_
        refine h_aload_n (pc' := 1) rfl rfl rfl ?_
        refine h_getI (pc' := 4) (v := t0 98 13) rfl rfl rfl rfl rfl rfl (fun z165 hz165 => ?_)
        refine h_zne (tg := 20) (pc' := 7) rfl rfl rfl hz165 (fun c166 => absurd (Int.le_antisymm (by omega) (by omega)) c166) (fun c166 => ?_)
        clear hz165
        refine h_aload_n (pc' := 8) rfl rfl rfl ?_
        refine h_iload_n (pc' := 9) rfl rfl rfl ?_
        refine h_put (pc' := 12) rfl rfl rfl rfl rfl rfl ci_5 rfl (h_fgt (E := fun s => s 98 15 = t0 98 15 ∧ s 98 16 = t0 98 16 ∧ s 98 17 = t0 98 17 ∧ s 98 18 = t0 98 18 ∧ s 98 13 = 5 ∧ s 98 14 = t0 98 14 ∧ s 98 5 = t0 98 5 ∧ s 98 6 = t0 98 6 ∧ s 98 7 = t0 98 7 ∧ s 98 8 = t0 98 8 ∧ s 98 9 = t0 98 9 ∧ s 101 18 = t0 101 18 ∧ s 101 25 = t0 101 25 ∧ s 101 43 = t0 101 43 ∧ s = h_up t0 98 13 5) _ (if_98_13 J0 (by omega)) (H0_.up rfl) ⟨rfl, rfl, rfl, rfl, rfl, rfl, rfl, rfl, rfl, rfl, rfl, rfl, rfl, rfl, rfl⟩ (fun s167 Is167 Fs167 (es167 : s167 98 15 = t0 98 15 ∧ s167 98 16 = t0 98 16 ∧ s167 98 17 = t0 98 17 ∧ s167 98 18 = t0 98 18 ∧ s167 98 13 = 5 ∧ s167 98 14 = t0 98 14 ∧ s167 98 5 = t0 98 5 ∧ s167 98 6 = t0 98 6 ∧ s167 98 7 = t0 98 7 ∧ s167 98 8 = t0 98 8 ∧ s167 98 9 = t0 98 9 ∧ s167 101 18 = t0 101 18 ∧ s167 101 25 = t0 101 25 ∧ s167 101 43 = t0 101 43 ∧ s167 = h_up t0 98 13 5) => ?_))
        have us167 := es167.2.2.2.2.2.2.2.2.2.2.2.2.2.2
        refine h_aload_n (pc' := 13) rfl rfl rfl ?_
        refine h_aload_n (pc' := 14) rfl rfl rfl ?_
        refine h_getI (pc' := 17) (v := t0 98 16) rfl rfl rfl rfl rfl es167.2.1 (fun z168 hz168 => ?_)
        have tz168 := tf_98_16 J0
        refine h_put (pc' := 20) rfl rfl rfl rfl rfl rfl hz168 rfl (h_fgt (E := fun s => s 98 15 = t0 98 15 ∧ s 98 16 = t0 98 16 ∧ s 98 17 = t0 98 17 ∧ s 98 18 = t0 98 18 ∧ s 98 13 = 5 ∧ s 98 14 = (t0 98 16) ∧ s 98 5 = t0 98 5 ∧ s 98 6 = t0 98 6 ∧ s 98 7 = t0 98 7 ∧ s 98 8 = t0 98 8 ∧ s 98 9 = t0 98 9 ∧ s 101 18 = t0 101 18 ∧ s 101 25 = t0 101 25 ∧ s 101 43 = t0 101 43 ∧ s = h_up s167 98 14 (t0 98 16)) _ (if_98_14 Is167 (h_rgv hz168)) (Fs167.up rfl) ⟨es167.1, es167.2.1, es167.2.2.1, es167.2.2.2.1, es167.2.2.2.2.1, rfl, es167.2.2.2.2.2.2.1, es167.2.2.2.2.2.2.2.1, es167.2.2.2.2.2.2.2.2.1, es167.2.2.2.2.2.2.2.2.2.1, es167.2.2.2.2.2.2.2.2.2.2.1, es167.2.2.2.2.2.2.2.2.2.2.2.1, es167.2.2.2.2.2.2.2.2.2.2.2.2.1, es167.2.2.2.2.2.2.2.2.2.2.2.2.2.1, rfl⟩ (fun s169 Is169 Fs169 (es169 : s169 98 15 = t0 98 15 ∧ s169 98 16 = t0 98 16 ∧ s169 98 17 = t0 98 17 ∧ s169 98 18 = t0 98 18 ∧ s169 98 13 = 5 ∧ s169 98 14 = (t0 98 16) ∧ s169 98 5 = t0 98 5 ∧ s169 98 6 = t0 98 6 ∧ s169 98 7 = t0 98 7 ∧ s169 98 8 = t0 98 8 ∧ s169 98 9 = t0 98 9 ∧ s169 101 18 = t0 101 18 ∧ s169 101 25 = t0 101 25 ∧ s169 101 43 = t0 101 43 ∧ s169 = h_up s167 98 14 (t0 98 16)) => ?_))
        clear es167
        have us169 := es169.2.2.2.2.2.2.2.2.2.2.2.2.2.2
        refine h_vret rfl rfl (h_Kn ?_)
        refine h_goto (pc' := 0) rfl rfl ?_
        refine d_toL (g_inj ns) hlw158 hRw158 (fun lvw170 memw170 hlw170 hRw170 => ?_)
        show h_T g_P (g_Y ns) 62 30 [(1, .int z157), (0, .ref 63)] [] s156 _
        exact h_wk [(0, .ref 63), (1, .int z157)] ⟨rfl, rfl, trivial⟩ (ih _ _ Is156 Is169 Fs156 Fs169 z157 _ hz157  (Int.le_antisymm (by omega) (by omega)) (Int.le_antisymm (by omega) (by omega)) (Int.le_antisymm (by omega) (by omega)) (by omega) (Int.le_antisymm (by omega) (by omega)) (Int.le_antisymm (by omega) (by omega)) (⟨by omega, by omega⟩) (by omega) (by omega) (fun h => absurd h (by omega)) (Or.inl ⟨⟨by omega, by omega⟩, ⟨by omega, by omega⟩, Int.le_antisymm (by omega) (by omega), Int.le_antisymm (by omega) (by omega)⟩) (by omega) _ _ (h_al_ok ⟨rfl, trivial⟩ hlw170) hRw170)
    · show h_T g_P (g_Y ns) 62 30 [(0, .ref 63), (1, .int x1)] [] s0 _
      refine h_iload_n (pc' := 31) rfl rfl rfl ?_
      refine h_bipush (pc' := 33) (x := (Int32.ofInt 8)) rfl rfl cb_8 ?_
      refine h_cgt (tg := 53) (pc' := 36) rfl rfl rfl hx1 ci_8 (fun c171 => absurd c171 (by omega)) (fun c171 => ?_)
      refine h_aload_n (pc' := 37) rfl rfl rfl ?_
      refine h_call (sp := false) (pc' := 40) (M := [(0, .ref 63)]) rfl rfl rfl rfl rfl rfl rfl rfl ?_
      refine h_aload_n (pc' := 1) rfl rfl rfl ?_
      refine h_getI (pc' := 4) (v := s0 63 2) rfl rfl rfl rfl rfl rfl (fun z172 hz172 => ?_)
      have tz172 := tf_63_2 I0
      refine h_zne (tg := 22) (pc' := 7) rfl rfl rfl hz172 (fun c173 => absurd (Int.le_antisymm (by omega) (by omega)) c173) (fun c173 => ?_)
      clear hz172
      refine h_aload_n (pc' := 8) rfl rfl rfl ?_
      refine h_getR (pc' := 11) rfl rfl rfl rfl rfl ?_
      refine h_getI (pc' := 14) (v := s0 64 3) rfl rfl rfl rfl rfl rfl (fun z174 hz174 => ?_)
      have tz174 := tf_64_3 I0
      refine h_iconst (pc' := 15) (x := (Int32.ofInt 2)) rfl rfl rfl ?_
      refine h_cne (tg := 22) (pc' := 18) rfl rfl rfl hz174 ci_2 (fun c175 => ?_) (fun c175 => absurd c175 (by omega))
      clear hz174
      refine h_iconst (pc' := 23) (x := (Int32.ofInt 0)) rfl rfl rfl ?_
      refine h_zret rfl rfl ci_0 (by omega) (h_Kv ?_)
      refine h_zeq (tg := 53) (pc' := 43) rfl rfl rfl ci_0 (fun c176 => ?_) (fun c176 => absurd (Int.le_antisymm (by omega) (by omega)) c176)
      refine d_toM (g_inj ns) hl2 hR2 (fun lvw177 memw177 hlw177 hRw177 => ?_)
      show h_T g_P (g_Y ns) 152 0 [(0, .ref 98)] [] t0 _
      refine h_aload_n (pc' := 1) rfl rfl rfl ?_
      refine h_getI (pc' := 4) (v := t0 98 13) rfl rfl rfl rfl rfl rfl (fun z178 hz178 => ?_)
      have tz178 := tf_98_13 J0
      refine h_zne (tg := 167) (pc' := 7) rfl rfl rfl hz178 (fun c179 => absurd (Int.le_antisymm (by omega) (by omega)) c179) (fun c179 => ?_)
      clear hz178
      refine h_aload_n (pc' := 8) rfl rfl rfl ?_
      refine h_getI (pc' := 11) (v := t0 98 17) rfl rfl rfl rfl rfl rfl (fun z180 hz180 => ?_)
      have tz180 := tf_98_17 J0
      refine h_iconst (pc' := 12) (x := (Int32.ofInt 2)) rfl rfl rfl ?_
      refine h_cne (tg := 167) (pc' := 15) rfl rfl rfl hz180 ci_2 (fun c181 => ?_) (fun c181 => absurd c181 (by omega))
      clear hz180
      refine d_toL (g_inj ns) hlw177 hRw177 (fun lvw182 memw182 hlw182 hRw182 => ?_)
      show h_T g_P (g_Y ns) 62 53 [(0, .ref 63), (1, .int x1)] [] s0 _
      exact h_wk [(0, .ref 63)] ⟨rfl, trivial⟩ (kx0 _ _ I0 J0 F0_ H0_ (Int.le_antisymm (by omega) (by omega)) (Int.le_antisymm (by omega) (by omega)) (Int.le_antisymm (by omega) (by omega)) (by omega) (by omega) (ex9) (Int.le_antisymm (by omega) (by omega)) (Int.le_antisymm (by omega) (by omega)) (Or.inr (Or.inr (Or.inr (Or.inr ⟨Int.le_antisymm (by omega) (by omega), Int.le_antisymm (by omega) (by omega), Int.le_antisymm (by omega) (by omega), Int.le_antisymm (by omega) (by omega), Int.le_antisymm (by omega) (by omega), by omega, by omega⟩)))) _ _ (h_al_ok ⟨rfl, trivial⟩ hlw182) hRw182)
