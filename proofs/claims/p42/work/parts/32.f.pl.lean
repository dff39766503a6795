set_option maxHeartbeats 100000000 in
theorem lp_pl {ns : Nat} {σ1 σ2 : h_S} (hI1 : h_I σ1) (hI2 : h_I σ2) (hTL : d_tape σ1 σ2) {cs1 cs2 : List d_Fr} {Q : d_Q} (kx0 : ∀ (s t : h_S), h_I s → h_I t → h_F (k_in k_pl) s σ1 → h_F (k_in k_pm) t σ2 → (s 64 2 = t 98 15) → (s 64 4 = t 98 16) → (s 63 2 = t 98 13) → (s 64 2 ≤ s 64 1) → (σ1 64 2 ≤ s 64 2) → (d_ok s t) → (s 63 5 = 1) → (t 98 7 = 1) → (((1 ≤ s 63 2 ∧ s 63 2 ≤ 6) ∧ (1 ≤ t 98 13 ∧ t 98 13 ≤ 6) ∧ (s 63 2 = t 98 13) ∧ (s 63 3 = t 98 14)) ∨ ((s 63 2 = 0) ∧ (s 64 3 = 0) ∧ (t 98 13 = 0) ∧ (t 98 17 = 0) ∧ (s 66 10 = t 101 43) ∧ (s 64 4 = s 64 1)) ∨ ((s 63 2 = 0) ∧ (s 64 3 = 1) ∧ (t 98 13 = 0) ∧ (t 98 17 = 1) ∧ (s 66 10 = t 101 43) ∧ (s 64 4 < s 64 2) ∧ ((s 64 2 = σ1 64 2 ∧ s 64 3 = σ1 64 3) ∨ σ1 64 2 < s 64 2)) ∨ ((s 63 2 = 0) ∧ (s 64 3 = 2) ∧ (t 98 13 = 0) ∧ (t 98 17 = 2) ∧ (0 ≤ s 64 5 ∧ s 64 5 ≤ 99) ∧ (0 ≤ t 98 18 ∧ t 98 18 ≤ 99) ∧ (s 64 5 = t 98 18) ∧ (s 66 10 = t 101 43) ∧ (s 64 4 < s 64 2) ∧ ((s 64 2 = σ1 64 2 ∧ s 64 3 = σ1 64 3) ∨ σ1 64 2 < s 64 2)) ∨ ((s 63 2 = 0) ∧ (s 64 3 = 3) ∧ (t 98 13 = 0) ∧ (t 98 17 = 3) ∧ (s 66 10 = t 101 43) ∧ (s 64 4 < s 64 2) ∧ ((s 64 2 = σ1 64 2 ∧ s 64 3 = σ1 64 3) ∨ σ1 64 2 < s 64 2))) → ∀ lv2 mem2, h_loc [(0, .ref 98)] lv2 → h_R (g_Y ns) t mem2 → h_T g_P (g_Y ns) 62 53 [(0, .ref 63)] [] s (d_cs g_P (g_Y ns) cs1 (d_L g_P (g_Y ns) (152, 167, lv2, []) cs2 mem2 Q))) : ∀ (n : Nat) (s t : h_S), h_I s → h_I t → h_F (k_in k_pl) s σ1 → h_F (k_in k_pm) t σ2 → ∀ (x1 : Int32) (a1 : Int), x1.toInt = a1 → (s 64 2 = t 98 15) → (s 64 4 = t 98 16) → (s 63 2 = t 98 13) → (s 64 2 ≤ s 64 1) → (s 63 5 = 1) → (t 98 7 = 1) → (0 ≤ a1 ∧ a1 ≤ 9) → (s 63 2 = 0 → a1 = s 66 10) → (σ1 64 2 ≤ s 64 2) → (d_ok s t) → (((1 ≤ s 63 2 ∧ s 63 2 ≤ 6) ∧ (1 ≤ t 98 13 ∧ t 98 13 ≤ 6) ∧ (s 63 2 = t 98 13) ∧ (s 63 3 = t 98 14)) ∨ ((s 63 2 = 0) ∧ (s 64 3 = 0) ∧ (t 98 13 = 0) ∧ (t 98 17 = 0) ∧ (s 66 10 = t 101 43) ∧ (s 64 4 = s 64 1)) ∨ ((s 63 2 = 0) ∧ (s 64 3 = 1) ∧ (t 98 13 = 0) ∧ (t 98 17 = 1) ∧ (s 66 10 = t 101 43) ∧ (s 64 4 < s 64 2) ∧ ((s 64 2 = σ1 64 2 ∧ s 64 3 = σ1 64 3) ∨ σ1 64 2 < s 64 2)) ∨ ((s 63 2 = 0) ∧ (s 64 3 = 2) ∧ (t 98 13 = 0) ∧ (t 98 17 = 2) ∧ (0 ≤ s 64 5 ∧ s 64 5 ≤ 99) ∧ (0 ≤ t 98 18 ∧ t 98 18 ≤ 99) ∧ (s 64 5 = t 98 18) ∧ (s 66 10 = t 101 43) ∧ (s 64 4 < s 64 2) ∧ ((s 64 2 = σ1 64 2 ∧ s 64 3 = σ1 64 3) ∨ σ1 64 2 < s 64 2)) ∨ ((s 63 2 = 0) ∧ (s 64 3 = 3) ∧ (t 98 13 = 0) ∧ (t 98 17 = 3) ∧ (s 66 10 = t 101 43) ∧ (s 64 4 < s 64 2) ∧ ((s 64 2 = σ1 64 2 ∧ s 64 3 = σ1 64 3) ∨ σ1 64 2 < s 64 2))) → (161 - s 64 2) * 100 - s 63 2 * 10 + s 64 3 ≤ (n : Int) → ∀ lv2 mem2, h_loc [(0, .ref 98)] lv2 → h_R (g_Y ns) t mem2 → h_T g_P (g_Y ns) 62 30 [(0, .ref 63), (1, .int x1)] [] s (d_cs g_P (g_Y ns) cs1 (d_L g_P (g_Y ns) (152, 0, lv2, []) cs2 mem2 Q)) := by
  have hT := hTL.1
  have hL := hTL.2
  intro n
  induction n with
  | zero => intro s0 t0 I0 J0 F0_ H0_ x1 a1 hx1 ex0 ex1 ex2 ex3 ex4 ex5 ex6 ex7 ex8 ex9 pc0 hm lv2 mem2 hl2 hR2; have ge0 := tf_64_1 hI1; have ge1 := tf_64_2 I0; have ge2 := tf_63_2 I0; have ge3 := tf_64_3 I0; have ge4 := tf_66_8 I0; have ge5 := tf_66_9 I0; have ge6 := tf_66_10 I0; have ge7 := tf_69_2 I0; have ge8 := tf_72_2 I0; have ge9 := tf_98_8 J0; have ge10 := tf_98_9 J0; have ge11 := F0_ 64 1 rfl; exfalso; omega
  | succ n ih =>
    intro s0 t0 I0 J0 F0_ H0_ x1 a1 hx1 ex0 ex1 ex2 ex3 ex4 ex5 ex6 ex7 ex8 ex9 pc0 hm lv2 mem2 hl2 hR2; have ge0 := tf_64_1 hI1; have ge1 := tf_64_2 I0; have ge2 := tf_63_2 I0; have ge3 := tf_64_3 I0; have ge4 := tf_66_8 I0; have ge5 := tf_66_9 I0; have ge6 := tf_66_10 I0; have ge7 := tf_69_2 I0; have ge8 := tf_72_2 I0; have ge9 := tf_98_8 J0; have ge10 := tf_98_9 J0; have ge11 := F0_ 64 1 rfl
    rcases pc0 with pc0 | pc0 | pc0 | pc0 | pc0
    · show h_T g_P (g_Y ns) 62 30 [(0, .ref 63), (1, .int x1)] [] s0 _
      refine h_iload_n (pc' := 31) rfl rfl rfl ?_
      refine h_bipush (pc' := 33) (x := (Int32.ofInt 8)) rfl rfl cb_8 ?_
      refine h_cgt (tg := 53) (pc' := 36) rfl rfl rfl hx1 ci_8 (fun c21 => ?_) (fun c21 => ?_)
      · refine d_toM (g_inj ns) hl2 hR2 (fun lvw22 memw22 hlw22 hRw22 => ?_)
        show h_T g_P (g_Y ns) 152 0 [(0, .ref 98)] [] t0 _
        refine h_aload_n (pc' := 1) rfl rfl rfl ?_
        refine h_getI (pc' := 4) (v := t0 98 13) rfl rfl rfl rfl rfl rfl (fun z23 hz23 => ?_)
        have tz23 := tf_98_13 J0
        refine h_zne (tg := 167) (pc' := 7) rfl rfl rfl hz23 (fun c24 => ?_) (fun c24 => absurd c24 (by omega))
        clear hz23
        refine d_toL (g_inj ns) hlw22 hRw22 (fun lvw25 memw25 hlw25 hRw25 => ?_)
        show h_T g_P (g_Y ns) 62 53 [(0, .ref 63), (1, .int x1)] [] s0 _
        exact h_wk [(0, .ref 63)] ⟨rfl, trivial⟩ (kx0 _ _ I0 J0 F0_ H0_ (Int.le_antisymm (by omega) (by omega)) (Int.le_antisymm (by omega) (by omega)) (Int.le_antisymm (by omega) (by omega)) (by omega) (by omega) (fun h => absurd h (by omega)) (Int.le_antisymm (by omega) (by omega)) (Int.le_antisymm (by omega) (by omega)) (Or.inl ⟨⟨by omega, by omega⟩, ⟨by omega, by omega⟩, Int.le_antisymm (by omega) (by omega), Int.le_antisymm (by omega) (by omega)⟩) _ _ (h_al_ok ⟨rfl, trivial⟩ hlw25) hRw25)
      · refine h_aload_n (pc' := 37) rfl rfl rfl ?_
        refine h_call (sp := false) (pc' := 40) (M := [(0, .ref 63)]) rfl rfl rfl rfl rfl rfl rfl rfl ?_
        refine h_aload_n (pc' := 1) rfl rfl rfl ?_
        refine h_getI (pc' := 4) (v := s0 63 2) rfl rfl rfl rfl rfl rfl (fun z26 hz26 => ?_)
        have tz26 := tf_63_2 I0
        refine h_zne (tg := 22) (pc' := 7) rfl rfl rfl hz26 (fun c27 => ?_) (fun c27 => absurd c27 (by omega))
        clear hz26
        refine h_iconst (pc' := 23) (x := (Int32.ofInt 0)) rfl rfl rfl ?_
        refine h_zret rfl rfl ci_0 (by omega) (h_Kv ?_)
        refine h_zeq (tg := 53) (pc' := 43) rfl rfl rfl ci_0 (fun c28 => ?_) (fun c28 => absurd (Int.le_antisymm (by omega) (by omega)) c28)
        refine d_toM (g_inj ns) hl2 hR2 (fun lvw29 memw29 hlw29 hRw29 => ?_)
        show h_T g_P (g_Y ns) 152 0 [(0, .ref 98)] [] t0 _
        refine h_aload_n (pc' := 1) rfl rfl rfl ?_
        refine h_getI (pc' := 4) (v := t0 98 13) rfl rfl rfl rfl rfl rfl (fun z30 hz30 => ?_)
        have tz30 := tf_98_13 J0
        refine h_zne (tg := 167) (pc' := 7) rfl rfl rfl hz30 (fun c31 => ?_) (fun c31 => absurd c31 (by omega))
        clear hz30
        refine d_toL (g_inj ns) hlw29 hRw29 (fun lvw32 memw32 hlw32 hRw32 => ?_)
        show h_T g_P (g_Y ns) 62 53 [(0, .ref 63), (1, .int x1)] [] s0 _
        exact h_wk [(0, .ref 63)] ⟨rfl, trivial⟩ (kx0 _ _ I0 J0 F0_ H0_ (Int.le_antisymm (by omega) (by omega)) (Int.le_antisymm (by omega) (by omega)) (Int.le_antisymm (by omega) (by omega)) (by omega) (by omega) (fun h => absurd h (by omega)) (Int.le_antisymm (by omega) (by omega)) (Int.le_antisymm (by omega) (by omega)) (Or.inl ⟨⟨by omega, by omega⟩, ⟨by omega, by omega⟩, Int.le_antisymm (by omega) (by omega), Int.le_antisymm (by omega) (by omega)⟩) _ _ (h_al_ok ⟨rfl, trivial⟩ hlw32) hRw32)
    · show h_T g_P (g_Y ns) 62 30 [(0, .ref 63), (1, .int x1)] [] s0 _
      refine h_iload_n (pc' := 31) rfl rfl rfl ?_
      refine h_bipush (pc' := 33) (x := (Int32.ofInt 8)) rfl rfl cb_8 ?_
      refine h_cgt (tg := 53) (pc' := 36) rfl rfl rfl hx1 ci_8 (fun c33 => absurd c33 (by omega)) (fun c33 => ?_)
      refine h_aload_n (pc' := 37) rfl rfl rfl ?_
      refine h_call (sp := false) (pc' := 40) (M := [(0, .ref 63)]) rfl rfl rfl rfl rfl rfl rfl rfl ?_
      refine h_aload_n (pc' := 1) rfl rfl rfl ?_
      refine h_getI (pc' := 4) (v := s0 63 2) rfl rfl rfl rfl rfl rfl (fun z34 hz34 => ?_)
      have tz34 := tf_63_2 I0
      refine h_zne (tg := 22) (pc' := 7) rfl rfl rfl hz34 (fun c35 => absurd (Int.le_antisymm (by omega) (by omega)) c35) (fun c35 => ?_)
      clear hz34
      refine h_aload_n (pc' := 8) rfl rfl rfl ?_
      refine h_getR (pc' := 11) rfl rfl rfl rfl rfl ?_
      refine h_getI (pc' := 14) (v := s0 64 3) rfl rfl rfl rfl rfl rfl (fun z36 hz36 => ?_)
      have tz36 := tf_64_3 I0
      refine h_iconst (pc' := 15) (x := (Int32.ofInt 2)) rfl rfl rfl ?_
      refine h_cne (tg := 22) (pc' := 18) rfl rfl rfl hz36 ci_2 (fun c37 => ?_) (fun c37 => absurd c37 (by omega))
      clear hz36
      refine h_iconst (pc' := 23) (x := (Int32.ofInt 0)) rfl rfl rfl ?_
      refine h_zret rfl rfl ci_0 (by omega) (h_Kv ?_)
      refine h_zeq (tg := 53) (pc' := 43) rfl rfl rfl ci_0 (fun c38 => ?_) (fun c38 => absurd (Int.le_antisymm (by omega) (by omega)) c38)
      refine d_toM (g_inj ns) hl2 hR2 (fun lvw39 memw39 hlw39 hRw39 => ?_)
      show h_T g_P (g_Y ns) 152 0 [(0, .ref 98)] [] t0 _
      refine h_aload_n (pc' := 1) rfl rfl rfl ?_
      refine h_getI (pc' := 4) (v := t0 98 13) rfl rfl rfl rfl rfl rfl (fun z40 hz40 => ?_)
      have tz40 := tf_98_13 J0
      refine h_zne (tg := 167) (pc' := 7) rfl rfl rfl hz40 (fun c41 => absurd (Int.le_antisymm (by omega) (by omega)) c41) (fun c41 => ?_)
      clear hz40
      refine h_aload_n (pc' := 8) rfl rfl rfl ?_
      refine h_getI (pc' := 11) (v := t0 98 17) rfl rfl rfl rfl rfl rfl (fun z42 hz42 => ?_)
      have tz42 := tf_98_17 J0
      refine h_iconst (pc' := 12) (x := (Int32.ofInt 2)) rfl rfl rfl ?_
      refine h_cne (tg := 167) (pc' := 15) rfl rfl rfl hz42 ci_2 (fun c43 => ?_) (fun c43 => absurd c43 (by omega))
      clear hz42
      refine d_toL (g_inj ns) hlw39 hRw39 (fun lvw44 memw44 hlw44 hRw44 => ?_)
      show h_T g_P (g_Y ns) 62 53 [(0, .ref 63), (1, .int x1)] [] s0 _
      exact h_wk [(0, .ref 63)] ⟨rfl, trivial⟩ (kx0 _ _ I0 J0 F0_ H0_ (Int.le_antisymm (by omega) (by omega)) (Int.le_antisymm (by omega) (by omega)) (Int.le_antisymm (by omega) (by omega)) (by omega) (by omega) (ex9) (Int.le_antisymm (by omega) (by omega)) (Int.le_antisymm (by omega) (by omega)) (Or.inr (Or.inl ⟨Int.le_antisymm (by omega) (by omega), Int.le_antisymm (by omega) (by omega), Int.le_antisymm (by omega) (by omega), Int.le_antisymm (by omega) (by omega), Int.le_antisymm (by omega) (by omega), Int.le_antisymm (by omega) (by omega)⟩)) _ _ (h_al_ok ⟨rfl, trivial⟩ hlw44) hRw44)
    · show h_T g_P (g_Y ns) 62 30 [(0, .ref 63), (1, .int x1)] [] s0 _
      refine h_iload_n (pc' := 31) rfl rfl rfl ?_
      refine h_bipush (pc' := 33) (x := (Int32.ofInt 8)) rfl rfl cb_8 ?_
      refine h_cgt (tg := 53) (pc' := 36) rfl rfl rfl hx1 ci_8 (fun c45 => absurd c45 (by omega)) (fun c45 => ?_)
      refine h_aload_n (pc' := 37) rfl rfl rfl ?_
      refine h_call (sp := false) (pc' := 40) (M := [(0, .ref 63)]) rfl rfl rfl rfl rfl rfl rfl rfl ?_
      refine h_aload_n (pc' := 1) rfl rfl rfl ?_
      refine h_getI (pc' := 4) (v := s0 63 2) rfl rfl rfl rfl rfl rfl (fun z46 hz46 => ?_)
      have tz46 := tf_63_2 I0
      refine h_zne (tg := 22) (pc' := 7) rfl rfl rfl hz46 (fun c47 => absurd (Int.le_antisymm (by omega) (by omega)) c47) (fun c47 => ?_)
      clear hz46
      refine h_aload_n (pc' := 8) rfl rfl rfl ?_
      refine h_getR (pc' := 11) rfl rfl rfl rfl rfl ?_
      refine h_getI (pc' := 14) (v := s0 64 3) rfl rfl rfl rfl rfl rfl (fun z48 hz48 => ?_)
      have tz48 := tf_64_3 I0
      refine h_iconst (pc' := 15) (x := (Int32.ofInt 2)) rfl rfl rfl ?_
      refine h_cne (tg := 22) (pc' := 18) rfl rfl rfl hz48 ci_2 (fun c49 => ?_) (fun c49 => absurd c49 (by omega))
      clear hz48
      refine h_iconst (pc' := 23) (x := (Int32.ofInt 0)) rfl rfl rfl ?_
      refine h_zret rfl rfl ci_0 (by omega) (h_Kv ?_)
      refine h_zeq (tg := 53) (pc' := 43) rfl rfl rfl ci_0 (fun c50 => ?_) (fun c50 => absurd (Int.le_antisymm (by omega) (by omega)) c50)
      refine d_toM (g_inj ns) hl2 hR2 (fun lvw51 memw51 hlw51 hRw51 => ?_)
      show h_T g_P (g_Y ns) 152 0 [(0, .ref 98)] [] t0 _
      refine h_aload_n (pc' := 1) rfl rfl rfl ?_
      refine h_getI (pc' := 4) (v := t0 98 13) rfl rfl rfl rfl rfl rfl (fun z52 hz52 => ?_)
      have tz52 := tf_98_13 J0
      refine h_zne (tg := 167) (pc' := 7) rfl rfl rfl hz52 (fun c53 => absurd (Int.le_antisymm (by omega) (by omega)) c53) (fun c53 => ?_)
      clear hz52
      refine h_aload_n (pc' := 8) rfl rfl rfl ?_
      refine h_getI (pc' := 11) (v := t0 98 17) rfl rfl rfl rfl rfl rfl (fun z54 hz54 => ?_)
      have tz54 := tf_98_17 J0
      refine h_iconst (pc' := 12) (x := (Int32.ofInt 2)) rfl rfl rfl ?_
      refine h_cne (tg := 167) (pc' := 15) rfl rfl rfl hz54 ci_2 (fun c55 => ?_) (fun c55 => absurd c55 (by omega))
      clear hz54
      refine d_toL (g_inj ns) hlw51 hRw51 (fun lvw56 memw56 hlw56 hRw56 => ?_)
      show h_T g_P (g_Y ns) 62 53 [(0, .ref 63), (1, .int x1)] [] s0 _
      exact h_wk [(0, .ref 63)] ⟨rfl, trivial⟩ (kx0 _ _ I0 J0 F0_ H0_ (Int.le_antisymm (by omega) (by omega)) (Int.le_antisymm (by omega) (by omega)) (Int.le_antisymm (by omega) (by omega)) (by omega) (by omega) (ex9) (Int.le_antisymm (by omega) (by omega)) (Int.le_antisymm (by omega) (by omega)) (Or.inr (Or.inr (Or.inl ⟨Int.le_antisymm (by omega) (by omega), Int.le_antisymm (by omega) (by omega), Int.le_antisymm (by omega) (by omega), Int.le_antisymm (by omega) (by omega), Int.le_antisymm (by omega) (by omega), by omega, by omega⟩))) _ _ (h_al_ok ⟨rfl, trivial⟩ hlw56) hRw56)
    · show h_T g_P (g_Y ns) 62 30 [(0, .ref 63), (1, .int x1)] [] s0 _
      refine h_iload_n (pc' := 31) rfl rfl rfl ?_
      refine h_bipush (pc' := 33) (x := (Int32.ofInt 8)) rfl rfl cb_8 ?_
      refine h_cgt (tg := 53) (pc' := 36) rfl rfl rfl hx1 ci_8 (fun c57 => absurd c57 (by omega)) (fun c57 => ?_)
      refine h_aload_n (pc' := 37) rfl rfl rfl ?_
      refine h_call (sp := false) (pc' := 40) (M := [(0, .ref 63)]) rfl rfl rfl rfl rfl rfl rfl rfl ?_
      refine h_aload_n (pc' := 1) rfl rfl rfl ?_
      refine h_getI (pc' := 4) (v := s0 63 2) rfl rfl rfl rfl rfl rfl (fun z58 hz58 => ?_)
      have tz58 := tf_63_2 I0
      refine h_zne (tg := 22) (pc' := 7) rfl rfl rfl hz58 (fun c59 => absurd (Int.le_antisymm (by omega) (by omega)) c59) (fun c59 => ?_)
      clear hz58
      refine h_aload_n (pc' := 8) rfl rfl rfl ?_
      refine h_getR (pc' := 11) rfl rfl rfl rfl rfl ?_
      refine h_getI (pc' := 14) (v := s0 64 3) rfl rfl rfl rfl rfl rfl (fun z60 hz60 => ?_)
      have tz60 := tf_64_3 I0
      refine h_iconst (pc' := 15) (x := (Int32.ofInt 2)) rfl rfl rfl ?_
      refine h_cne (tg := 22) (pc' := 18) rfl rfl rfl hz60 ci_2 (fun c61 => absurd (Int.le_antisymm (by omega) (by omega)) c61) (fun c61 => ?_)
      clear hz60
      refine h_iconst (pc' := 19) (x := (Int32.ofInt 1)) rfl rfl rfl ?_
      refine h_goto (pc' := 23) rfl rfl ?_
      refine h_zret rfl rfl ci_1 (by omega) (h_Kv ?_)
      refine h_zeq (tg := 53) (pc' := 43) rfl rfl rfl ci_1 (fun c62 => absurd c62 (by omega)) (fun c62 => ?_)
      refine h_aload_n (pc' := 44) rfl rfl rfl ?_
      refine d_call (g_inj ns) (pc' := 47) (m := 63) (M := [(0, .ref 63)]) (rest := []) ⟨false, _, _, _, _, _, _, rfl, rfl, rfl, rfl, rfl, rfl, rfl⟩ (fun lv63 hlv63 => ?_)
      refine h_aload_n (pc' := 1) rfl rfl rfl ?_
      refine h_getR (pc' := 4) rfl rfl rfl rfl rfl ?_
      refine h_getI (pc' := 7) (v := s0 64 5) rfl rfl rfl rfl rfl rfl (fun z64 hz64 => ?_)
      have tz64 := tf_64_5 I0
      refine h_istore_n (pc' := 8) (M := [(1, .int z64), (0, .ref 63)]) rfl rfl rfl rfl ?_
      refine h_aload_n (pc' := 9) rfl rfl rfl ?_
      refine h_getR (pc' := 12) rfl rfl rfl rfl rfl ?_
      refine h_getI (pc' := 15) (v := s0 66 10) rfl rfl rfl rfl rfl rfl (fun z65 hz65 => ?_)
      have tz65 := tf_66_10 I0
      refine h_bipush (pc' := 17) (x := (Int32.ofInt 8)) rfl rfl cb_8 ?_
      refine h_clt (tg := 35) (pc' := 20) rfl rfl rfl hz65 ci_8 (fun c66 => ?_) (fun c66 => ?_)
      · clear hz65
        refine h_iload_n (pc' := 36) rfl rfl rfl ?_
        refine h_bipush (pc' := 38) (x := (Int32.ofInt 10)) rfl rfl cb_10 ?_
        refine h_idiv (pc' := 39) rfl rfl hz64 ci_10 (by omega) (by omega) (fun z67 hz67 => ?_)
        refine h_bipush (pc' := 41) (x := (Int32.ofInt 6)) rfl rfl cb_6 ?_
        refine h_cge (tg := 52) (pc' := 44) rfl rfl rfl hz67 ci_6 (fun c68 => ?_) (fun c68 => ?_)
        · clear hz67
          refine h_aload_n (pc' := 53) rfl rfl rfl ?_
          refine h_iconst (pc' := 54) (x := (Int32.ofInt 3)) rfl rfl rfl ?_
          refine h_aload_n (pc' := 55) rfl rfl rfl ?_
          refine h_getR (pc' := 58) rfl rfl rfl rfl rfl ?_
          refine h_getI (pc' := 61) (v := s0 64 4) rfl rfl rfl rfl rfl rfl (fun z69 hz69 => ?_)
          have tz69 := tf_64_4 I0
          refine h_call (sp := false) (pc' := 64) (M := [(0, .ref 63), (1, .int (Int32.ofInt 3)), (2, .int z69)]) rfl rfl rfl rfl rfl rfl rfl rfl ?_
          refine h_aload_n (pc' := 1) rfl rfl rfl ?_
          refine h_getI (pc' := 4) (v := s0 63 2) rfl rfl rfl rfl rfl rfl (fun z70 hz70 => ?_)
          refine h_zne (tg := 17) (pc' := 7) rfl rfl rfl hz70 (fun c71 => absurd (Int.le_antisymm (by omega) (by omega)) c71) (fun c71 => ?_)
          clear hz70
          refine h_aload_n (pc' := 8) rfl rfl rfl ?_
          refine h_iload_n (pc' := 9) rfl rfl rfl ?_
          refine h_put (pc' := 12) rfl rfl rfl rfl rfl rfl ci_3 rfl (h_fgt (E := fun s => s 64 2 = s0 64 2 ∧ s 64 4 = s0 64 4 ∧ s 64 3 = s0 64 3 ∧ s 64 5 = s0 64 5 ∧ s 63 2 = 3 ∧ s 63 3 = s0 63 3 ∧ s 64 1 = s0 64 1 ∧ s 66 8 = s0 66 8 ∧ s 66 9 = s0 66 9 ∧ s 66 10 = s0 66 10 ∧ s 69 2 = s0 69 2 ∧ s 72 2 = s0 72 2 ∧ s 63 5 = s0 63 5 ∧ s = h_up s0 63 2 3) _ (if_63_2 I0 (by omega)) (F0_.up rfl) ⟨rfl, rfl, rfl, rfl, rfl, rfl, rfl, rfl, rfl, rfl, rfl, rfl, rfl, rfl⟩ (fun s72 Is72 Fs72 (es72 : s72 64 2 = s0 64 2 ∧ s72 64 4 = s0 64 4 ∧ s72 64 3 = s0 64 3 ∧ s72 64 5 = s0 64 5 ∧ s72 63 2 = 3 ∧ s72 63 3 = s0 63 3 ∧ s72 64 1 = s0 64 1 ∧ s72 66 8 = s0 66 8 ∧ s72 66 9 = s0 66 9 ∧ s72 66 10 = s0 66 10 ∧ s72 69 2 = s0 69 2 ∧ s72 72 2 = s0 72 2 ∧ s72 63 5 = s0 63 5 ∧ s72 = h_up s0 63 2 3) => ?_))
          have us72 := es72.2.2.2.2.2.2.2.2.2.2.2.2.2
          refine h_aload_n (pc' := 13) rfl rfl rfl ?_
          refine h_iload_n (pc' := 14) rfl rfl rfl ?_
          refine h_put (pc' := 17) rfl rfl rfl rfl rfl rfl hz69 rfl (h_fgt (E := fun s => s 64 2 = s0 64 2 ∧ s 64 4 = s0 64 4 ∧ s 64 3 = s0 64 3 ∧ s 64 5 = s0 64 5 ∧ s 63 2 = 3 ∧ s 63 3 = (s0 64 4) ∧ s 64 1 = s0 64 1 ∧ s 66 8 = s0 66 8 ∧ s 66 9 = s0 66 9 ∧ s 66 10 = s0 66 10 ∧ s 69 2 = s0 69 2 ∧ s 72 2 = s0 72 2 ∧ s 63 5 = s0 63 5 ∧ s = h_up s72 63 3 (s0 64 4)) _ (if_63_3 Is72 (h_rgv hz69)) (Fs72.up rfl) ⟨es72.1, es72.2.1, es72.2.2.1, es72.2.2.2.1, es72.2.2.2.2.1, rfl, es72.2.2.2.2.2.2.1, es72.2.2.2.2.2.2.2.1, es72.2.2.2.2.2.2.2.2.1, es72.2.2.2.2.2.2.2.2.2.1, es72.2.2.2.2.2.2.2.2.2.2.1, es72.2.2.2.2.2.2.2.2.2.2.2.1, es72.2.2.2.2.2.2.2.2.2.2.2.2.1, rfl⟩ (fun s73 Is73 Fs73 (es73 : s73 64 2 = s0 64 2 ∧ s73 64 4 = s0 64 4 ∧ s73 64 3 = s0 64 3 ∧ s73 64 5 = s0 64 5 ∧ s73 63 2 = 3 ∧ s73 63 3 = (s0 64 4) ∧ s73 64 1 = s0 64 1 ∧ s73 66 8 = s0 66 8 ∧ s73 66 9 = s0 66 9 ∧ s73 66 10 = s0 66 10 ∧ s73 69 2 = s0 69 2 ∧ s73 72 2 = s0 72 2 ∧ s73 63 5 = s0 63 5 ∧ s73 = h_up s72 63 3 (s0 64 4)) => ?_))
          clear es72
          have us73 := es73.2.2.2.2.2.2.2.2.2.2.2.2.2
          refine h_vret rfl rfl (h_Kn ?_)
          refine h_goto (pc' := 79) rfl rfl ?_
          refine h_vret rfl rfl (d_retn hlv63 ?_)
          clear hz64
          refine h_iinc (pc' := 50) (M := fun z74 => [(1, .int z74), (0, .ref 63)]) rfl rfl rfl rfl hx1 ci_1 rfl (by omega) (by omega) (fun _ => rfl) (fun z74 hz74 => ?_)
          refine h_goto (pc' := 30) rfl rfl ?_
          refine d_toM (g_inj ns) hl2 hR2 (fun lvw75 memw75 hlw75 hRw75 => ?_)
          show h_T g_P (g_Y ns) 152 0 [(0, .ref 98)] [] t0 _
          refine h_aload_n (pc' := 1) rfl rfl rfl ?_
          refine h_getI (pc' := 4) (v := t0 98 13) rfl rfl rfl rfl rfl rfl (fun z76 hz76 => ?_)
          have tz76 := tf_98_13 J0
          refine h_zne (tg := 167) (pc' := 7) rfl rfl rfl hz76 (fun c77 => absurd (Int.le_antisymm (by omega) (by omega)) c77) (fun c77 => ?_)
          clear hz76
          refine h_aload_n (pc' := 8) rfl rfl rfl ?_
          refine h_getI (pc' := 11) (v := t0 98 17) rfl rfl rfl rfl rfl rfl (fun z78 hz78 => ?_)
          have tz78 := tf_98_17 J0
          refine h_iconst (pc' := 12) (x := (Int32.ofInt 2)) rfl rfl rfl ?_
          refine h_cne (tg := 167) (pc' := 15) rfl rfl rfl hz78 ci_2 (fun c79 => absurd (Int.le_antisymm (by omega) (by omega)) c79) (fun c79 => ?_)
          clear hz78
          refine h_aload_n (pc' := 16) rfl rfl rfl ?_
          refine h_getR (pc' := 19) rfl rfl rfl rfl rfl ?_
          refine h_bipush (pc' := 21) (x := (Int32.ofInt 43)) rfl rfl cb_43 ?_
          refine h_iald (pc' := 22) (v := t0 101 43) rfl rfl rfl ci_43 (by omega) (by omega) rfl (fun z80 hz80 => ?_)
          have tz80 := ty_101_10 J0 43 (by omega)
          refine h_bipush (pc' := 24) (x := (Int32.ofInt 8)) rfl rfl cb_8 ?_
          refine h_cne (tg := 35) (pc' := 27) rfl rfl rfl hz80 ci_8 (fun c81 => ?_) (fun c81 => absurd c81 (by omega))
          clear hz80
          refine h_aload_n (pc' := 36) rfl rfl rfl ?_
          refine h_getI (pc' := 39) (v := t0 98 18) rfl rfl rfl rfl rfl rfl (fun z82 hz82 => ?_)
          have tz82 := tf_98_18 J0
          refine h_bipush (pc' := 41) (x := (Int32.ofInt 10)) rfl rfl cb_10 ?_
          refine h_idiv (pc' := 42) rfl rfl hz82 ci_10 (by omega) (by omega) (fun z83 hz83 => ?_)
          clear hz82
          refine h_bipush (pc' := 44) (x := (Int32.ofInt 6)) rfl rfl cb_6 ?_
          refine h_cge (tg := 58) (pc' := 47) rfl rfl rfl hz83 ci_6 (fun c84 => ?_) (fun c84 => absurd c84 (by omega))
          clear hz83
          refine h_aload_n (pc' := 59) rfl rfl rfl ?_
          refine h_iconst (pc' := 60) (x := (Int32.ofInt 3)) rfl rfl rfl ?_
          refine h_call (sp := false) (pc' := 63) (M := [(0, .ref 98), (1, .int (Int32.ofInt 3))]) rfl rfl rfl rfl rfl rfl rfl rfl ?_
          refine h_aload_n (pc' := 1) rfl rfl rfl ?_
          refine h_getI (pc' := 4) (v := t0 98 13) rfl rfl rfl rfl rfl rfl (fun z85 hz85 => ?_)
          refine h_zne (tg := 20) (pc' := 7) rfl rfl rfl hz85 (fun c86 => absurd (Int.le_antisymm (by omega) (by omega)) c86) (fun c86 => ?_)
          clear hz85
          refine h_aload_n (pc' := 8) rfl rfl rfl ?_
          refine h_iload_n (pc' := 9) rfl rfl rfl ?_
          refine h_put (pc' := 12) rfl rfl rfl rfl rfl rfl ci_3 rfl (h_fgt (E := fun s => s 98 15 = t0 98 15 ∧ s 98 16 = t0 98 16 ∧ s 98 17 = t0 98 17 ∧ s 98 18 = t0 98 18 ∧ s 98 13 = 3 ∧ s 98 14 = t0 98 14 ∧ s 98 5 = t0 98 5 ∧ s 98 6 = t0 98 6 ∧ s 98 7 = t0 98 7 ∧ s 98 8 = t0 98 8 ∧ s 98 9 = t0 98 9 ∧ s 101 18 = t0 101 18 ∧ s 101 25 = t0 101 25 ∧ s 101 43 = t0 101 43 ∧ s = h_up t0 98 13 3) _ (if_98_13 J0 (by omega)) (H0_.up rfl) ⟨rfl, rfl, rfl, rfl, rfl, rfl, rfl, rfl, rfl, rfl, rfl, rfl, rfl, rfl, rfl⟩ (fun s87 Is87 Fs87 (es87 : s87 98 15 = t0 98 15 ∧ s87 98 16 = t0 98 16 ∧ s87 98 17 = t0 98 17 ∧ s87 98 18 = t0 98 18 ∧ s87 98 13 = 3 ∧ s87 98 14 = t0 98 14 ∧ s87 98 5 = t0 98 5 ∧ s87 98 6 = t0 98 6 ∧ s87 98 7 = t0 98 7 ∧ s87 98 8 = t0 98 8 ∧ s87 98 9 = t0 98 9 ∧ s87 101 18 = t0 101 18 ∧ s87 101 25 = t0 101 25 ∧ s87 101 43 = t0 101 43 ∧ s87 = h_up t0 98 13 3) => ?_))
          have us87 := es87.2.2.2.2.2.2.2.2.2.2.2.2.2.2
          refine h_aload_n (pc' := 13) rfl rfl rfl ?_
          refine h_aload_n (pc' := 14) rfl rfl rfl ?_
          refine h_getI (pc' := 17) (v := t0 98 16) rfl rfl rfl rfl rfl es87.2.1 (fun z88 hz88 => ?_)
          have tz88 := tf_98_16 J0
          refine h_put (pc' := 20) rfl rfl rfl rfl rfl rfl hz88 rfl (h_fgt (E := fun s => s 98 15 = t0 98 15 ∧ s 98 16 = t0 98 16 ∧ s 98 17 = t0 98 17 ∧ s 98 18 = t0 98 18 ∧ s 98 13 = 3 ∧ s 98 14 = (t0 98 16) ∧ s 98 5 = t0 98 5 ∧ s 98 6 = t0 98 6 ∧ s 98 7 = t0 98 7 ∧ s 98 8 = t0 98 8 ∧ s 98 9 = t0 98 9 ∧ s 101 18 = t0 101 18 ∧ s 101 25 = t0 101 25 ∧ s 101 43 = t0 101 43 ∧ s = h_up s87 98 14 (t0 98 16)) _ (if_98_14 Is87 (h_rgv hz88)) (Fs87.up rfl) ⟨es87.1, es87.2.1, es87.2.2.1, es87.2.2.2.1, es87.2.2.2.2.1, rfl, es87.2.2.2.2.2.2.1, es87.2.2.2.2.2.2.2.1, es87.2.2.2.2.2.2.2.2.1, es87.2.2.2.2.2.2.2.2.2.1, es87.2.2.2.2.2.2.2.2.2.2.1, es87.2.2.2.2.2.2.2.2.2.2.2.1, es87.2.2.2.2.2.2.2.2.2.2.2.2.1, es87.2.2.2.2.2.2.2.2.2.2.2.2.2.1, rfl⟩ (fun s89 Is89 Fs89 (es89 : s89 98 15 = t0 98 15 ∧ s89 98 16 = t0 98 16 ∧ s89 98 17 = t0 98 17 ∧ s89 98 18 = t0 98 18 ∧ s89 98 13 = 3 ∧ s89 98 14 = (t0 98 16) ∧ s89 98 5 = t0 98 5 ∧ s89 98 6 = t0 98 6 ∧ s89 98 7 = t0 98 7 ∧ s89 98 8 = t0 98 8 ∧ s89 98 9 = t0 98 9 ∧ s89 101 18 = t0 101 18 ∧ s89 101 25 = t0 101 25 ∧ s89 101 43 = t0 101 43 ∧ s89 = h_up s87 98 14 (t0 98 16)) => ?_))
          clear es87
          have us89 := es89.2.2.2.2.2.2.2.2.2.2.2.2.2.2
          refine h_vret rfl rfl (h_Kn ?_)
          refine h_goto (pc' := 0) rfl rfl ?_
          refine d_toL (g_inj ns) hlw75 hRw75 (fun lvw90 memw90 hlw90 hRw90 => ?_)
          show h_T g_P (g_Y ns) 62 30 [(1, .int z74), (0, .ref 63)] [] s73 _
          have ga91 := tf_64_3 Is73
          have ga92 := tf_63_2 Is73
          exact h_wk [(0, .ref 63), (1, .int z74)] ⟨rfl, rfl, trivial⟩ (ih _ _ Is73 Is89 Fs73 Fs89 z74 _ hz74  (Int.le_antisymm (by omega) (by omega)) (Int.le_antisymm (by omega) (by omega)) (Int.le_antisymm (by omega) (by omega)) (by omega) (Int.le_antisymm (by omega) (by omega)) (Int.le_antisymm (by omega) (by omega)) (⟨by omega, by omega⟩) (by omega) (by omega) (fun h => absurd h (by omega)) (Or.inl ⟨⟨by omega, by omega⟩, ⟨by omega, by omega⟩, Int.le_antisymm (by omega) (by omega), Int.le_antisymm (by omega) (by omega)⟩) (by omega) _ _ (h_al_ok ⟨rfl, trivial⟩ hlw90) hRw90)
        · clear hz67
          refine h_iload_n (pc' := 45) rfl rfl rfl ?_
          refine h_bipush (pc' := 47) (x := (Int32.ofInt 10)) rfl rfl cb_10 ?_
          refine h_irem (pc' := 48) rfl rfl hz64 ci_10 (by omega) (by omega) (fun z93 hz93 => ?_)
          refine h_iconst (pc' := 49) (x := (Int32.ofInt 3)) rfl rfl rfl ?_
          refine h_clt (tg := 67) (pc' := 52) rfl rfl rfl hz93 ci_3 (fun c94 => ?_) (fun c94 => ?_)
          · clear hz93
            refine h_aload_n (pc' := 68) rfl rfl rfl ?_
            refine h_getR (pc' := 71) rfl rfl rfl rfl rfl ?_
            refine h_iload_n (pc' := 72) rfl rfl rfl ?_
            refine h_call (sp := false) (pc' := 75) (M := [(0, .ref 66), (1, .int z64)]) rfl rfl rfl rfl rfl rfl rfl rfl ?_
            refine h_aload_n (pc' := 1) rfl rfl rfl ?_
            refine h_getI (pc' := 4) (v := s0 66 10) rfl rfl rfl rfl rfl rfl (fun z95 hz95 => ?_)
            refine h_bipush (pc' := 6) (x := (Int32.ofInt 8)) rfl rfl cb_8 ?_
            refine h_cge (tg := 29) (pc' := 9) rfl rfl rfl hz95 ci_8 (fun c96 => absurd c96 (by omega)) (fun c96 => ?_)
            clear hz95
            refine h_aload_n (pc' := 10) rfl rfl rfl ?_
            refine h_getR (pc' := 13) rfl rfl rfl rfl rfl ?_
            refine h_aload_n (pc' := 14) rfl rfl rfl ?_
            refine h_getI (pc' := 17) (v := s0 66 10) rfl rfl rfl rfl rfl rfl (fun z97 hz97 => ?_)
            refine h_iload_n (pc' := 18) rfl rfl rfl ?_
            refine h_iast (pc' := 19) rfl rfl rfl rfl hz97 (by omega) (by omega) hz64 (h_fgt (E := fun s => s 64 2 = s0 64 2 ∧ s 64 4 = s0 64 4 ∧ s 64 3 = s0 64 3 ∧ s 64 5 = s0 64 5 ∧ s 63 2 = s0 63 2 ∧ s 63 3 = s0 63 3 ∧ s 64 1 = s0 64 1 ∧ s 66 8 = s0 66 8 ∧ s 66 9 = s0 66 9 ∧ s 66 10 = s0 66 10 ∧ s 69 2 = s0 69 2 ∧ s 72 2 = s0 72 2 ∧ s 63 5 = s0 63 5 ∧ s = h_up s0 78 (s0 66 10) (s0 64 5)) _ (in_78 I0 (by omega)) (F0_.up rfl) ⟨rfl, rfl, rfl, rfl, rfl, rfl, rfl, rfl, rfl, rfl, rfl, rfl, rfl, rfl⟩ (fun s98 Is98 Fs98 (es98 : s98 64 2 = s0 64 2 ∧ s98 64 4 = s0 64 4 ∧ s98 64 3 = s0 64 3 ∧ s98 64 5 = s0 64 5 ∧ s98 63 2 = s0 63 2 ∧ s98 63 3 = s0 63 3 ∧ s98 64 1 = s0 64 1 ∧ s98 66 8 = s0 66 8 ∧ s98 66 9 = s0 66 9 ∧ s98 66 10 = s0 66 10 ∧ s98 69 2 = s0 69 2 ∧ s98 72 2 = s0 72 2 ∧ s98 63 5 = s0 63 5 ∧ s98 = h_up s0 78 (s0 66 10) (s0 64 5)) => ?_))
            have us98 := es98.2.2.2.2.2.2.2.2.2.2.2.2.2
            clear hz97
            refine h_aload_n (pc' := 20) rfl rfl rfl ?_
            refine h_dup (pc' := 21) rfl rfl rfl ?_
            refine h_getI (pc' := 24) (v := s0 66 10) rfl rfl rfl rfl rfl es98.2.2.2.2.2.2.2.2.2.1 (fun z99 hz99 => ?_)
            refine h_iconst (pc' := 25) (x := (Int32.ofInt 1)) rfl rfl rfl ?_
            refine h_iadd (pc' := 26) rfl rfl hz99 ci_1 rfl (by omega) (by omega) (fun z100 hz100 => ?_)
            clear hz99
            refine h_put (pc' := 29) rfl rfl rfl rfl rfl rfl hz100 rfl (h_fgt (E := fun s => s 64 2 = s0 64 2 ∧ s 64 4 = s0 64 4 ∧ s 64 3 = s0 64 3 ∧ s 64 5 = s0 64 5 ∧ s 63 2 = s0 63 2 ∧ s 63 3 = s0 63 3 ∧ s 64 1 = s0 64 1 ∧ s 66 8 = s0 66 8 ∧ s 66 9 = s0 66 9 ∧ s 66 10 = ((s0 66 10) + 1) ∧ s 69 2 = s0 69 2 ∧ s 72 2 = s0 72 2 ∧ s 63 5 = s0 63 5 ∧ s = h_up s98 66 10 ((s0 66 10) + 1)) _ (if_66_10 Is98 (by omega)) (Fs98.up rfl) ⟨es98.1, es98.2.1, es98.2.2.1, es98.2.2.2.1, es98.2.2.2.2.1, es98.2.2.2.2.2.1, es98.2.2.2.2.2.2.1, es98.2.2.2.2.2.2.2.1, es98.2.2.2.2.2.2.2.2.1, rfl, es98.2.2.2.2.2.2.2.2.2.2.1, es98.2.2.2.2.2.2.2.2.2.2.2.1, es98.2.2.2.2.2.2.2.2.2.2.2.2.1, rfl⟩ (fun s101 Is101 Fs101 (es101 : s101 64 2 = s0 64 2 ∧ s101 64 4 = s0 64 4 ∧ s101 64 3 = s0 64 3 ∧ s101 64 5 = s0 64 5 ∧ s101 63 2 = s0 63 2 ∧ s101 63 3 = s0 63 3 ∧ s101 64 1 = s0 64 1 ∧ s101 66 8 = s0 66 8 ∧ s101 66 9 = s0 66 9 ∧ s101 66 10 = ((s0 66 10) + 1) ∧ s101 69 2 = s0 69 2 ∧ s101 72 2 = s0 72 2 ∧ s101 63 5 = s0 63 5 ∧ s101 = h_up s98 66 10 ((s0 66 10) + 1)) => ?_))
            clear es98
            have us101 := es101.2.2.2.2.2.2.2.2.2.2.2.2.2
            refine h_vret rfl rfl (h_Kn ?_)
            refine h_aload_n (pc' := 76) rfl rfl rfl ?_
            refine d_toM (g_inj ns) hl2 hR2 (fun lvw102 memw102 hlw102 hRw102 => ?_)
            show h_T g_P (g_Y ns) 152 0 [(0, .ref 98)] [] t0 _
            refine h_aload_n (pc' := 1) rfl rfl rfl ?_
            refine h_getI (pc' := 4) (v := t0 98 13) rfl rfl rfl rfl rfl rfl (fun z103 hz103 => ?_)
            have tz103 := tf_98_13 J0
            refine h_zne (tg := 167) (pc' := 7) rfl rfl rfl hz103 (fun c104 => absurd (Int.le_antisymm (by omega) (by omega)) c104) (fun c104 => ?_)
            clear hz103
            refine h_aload_n (pc' := 8) rfl rfl rfl ?_
            refine h_getI (pc' := 11) (v := t0 98 17) rfl rfl rfl rfl rfl rfl (fun z105 hz105 => ?_)
            have tz105 := tf_98_17 J0
            refine h_iconst (pc' := 12) (x := (Int32.ofInt 2)) rfl rfl rfl ?_
            refine h_cne (tg := 167) (pc' := 15) rfl rfl rfl hz105 ci_2 (fun c106 => absurd (Int.le_antisymm (by omega) (by omega)) c106) (fun c106 => ?_)
            clear hz105
            refine h_aload_n (pc' := 16) rfl rfl rfl ?_
            refine h_getR (pc' := 19) rfl rfl rfl rfl rfl ?_
            refine h_bipush (pc' := 21) (x := (Int32.ofInt 43)) rfl rfl cb_43 ?_
            refine h_iald (pc' := 22) (v := t0 101 43) rfl rfl rfl ci_43 (by omega) (by omega) rfl (fun z107 hz107 => ?_)
            have tz107 := ty_101_10 J0 43 (by omega)
            refine h_bipush (pc' := 24) (x := (Int32.ofInt 8)) rfl rfl cb_8 ?_
            refine h_cne (tg := 35) (pc' := 27) rfl rfl rfl hz107 ci_8 (fun c108 => ?_) (fun c108 => absurd c108 (by omega))
            clear hz107
            refine h_aload_n (pc' := 36) rfl rfl rfl ?_
            refine h_getI (pc' := 39) (v := t0 98 18) rfl rfl rfl rfl rfl rfl (fun z109 hz109 => ?_)
            have tz109 := tf_98_18 J0
            refine h_bipush (pc' := 41) (x := (Int32.ofInt 10)) rfl rfl cb_10 ?_
            refine h_idiv (pc' := 42) rfl rfl hz109 ci_10 (by omega) (by omega) (fun z110 hz110 => ?_)
            clear hz109
            refine h_bipush (pc' := 44) (x := (Int32.ofInt 6)) rfl rfl cb_6 ?_
            refine h_cge (tg := 58) (pc' := 47) rfl rfl rfl hz110 ci_6 (fun c111 => absurd c111 (by omega)) (fun c111 => ?_)
            clear hz110
            refine h_aload_n (pc' := 48) rfl rfl rfl ?_
            refine h_getI (pc' := 51) (v := t0 98 18) rfl rfl rfl rfl rfl rfl (fun z112 hz112 => ?_)
            refine h_bipush (pc' := 53) (x := (Int32.ofInt 10)) rfl rfl cb_10 ?_
            refine h_irem (pc' := 54) rfl rfl hz112 ci_10 (by omega) (by omega) (fun z113 hz113 => ?_)
            clear hz112
            refine h_iconst (pc' := 55) (x := (Int32.ofInt 3)) rfl rfl rfl ?_
            refine h_clt (tg := 66) (pc' := 58) rfl rfl rfl hz113 ci_3 (fun c114 => ?_) (fun c114 => absurd c114 (by omega))
            clear hz113
            have gH115 : 0 ≤ t0 98 18 ∧ t0 98 18 ≤ 99 := by have ga := tf_98_18 J0; omega
            have oH115 : t0 98 8 = t0 98 8 := rfl
            have vH115 : t0 98 18 = t0 98 18 := rfl
            have uH115 := tf_98_8 J0
            refine h_wk [(0, .ref 98)] ⟨rfl, trivial⟩ (lm_ho _ J0 (by omega) (fun H115 hH115 => (h_fgt (E := fun s => s 98 15 = t0 98 15 ∧ s 98 16 = t0 98 16 ∧ s 98 17 = t0 98 17 ∧ s 98 18 = t0 98 18 ∧ s 98 13 = t0 98 13 ∧ s 98 14 = t0 98 14 ∧ s 98 5 = t0 98 5 ∧ s 98 6 = t0 98 6 ∧ s 98 7 = t0 98 7 ∧ s 98 8 = H115 ∧ s 98 9 = t0 98 9 ∧ s 101 18 = t0 101 18 ∧ s 101 25 = t0 101 25 ∧ s 101 43 = t0 101 43 ∧ s = h_up t0 98 8 H115) _ (if_98_8 J0 (by omega)) (H0_.up rfl) ⟨rfl, rfl, rfl, rfl, rfl, rfl, rfl, rfl, rfl, rfl, rfl, rfl, rfl, rfl, rfl⟩ (fun s116 Is116 Fs116 (es116 : s116 98 15 = t0 98 15 ∧ s116 98 16 = t0 98 16 ∧ s116 98 17 = t0 98 17 ∧ s116 98 18 = t0 98 18 ∧ s116 98 13 = t0 98 13 ∧ s116 98 14 = t0 98 14 ∧ s116 98 5 = t0 98 5 ∧ s116 98 6 = t0 98 6 ∧ s116 98 7 = t0 98 7 ∧ s116 98 8 = H115 ∧ s116 98 9 = t0 98 9 ∧ s116 101 18 = t0 101 18 ∧ s116 101 25 = t0 101 25 ∧ s116 101 43 = t0 101 43 ∧ s116 = h_up t0 98 8 H115) => ?_))))
            have us116 := es116.2.2.2.2.2.2.2.2.2.2.2.2.2.2
            have gH117 : 0 ≤ s116 98 18 ∧ s116 98 18 ≤ 99 := by have ga := es116.2.2.2.1; omega
            have oH117 : s116 98 9 = t0 98 9 := es116.2.2.2.2.2.2.2.2.2.2.1
            have vH117 : s116 98 18 = t0 98 18 := es116.2.2.2.1
            have uH117 := tf_98_9 Is116
            refine h_wk [(0, .ref 98)] ⟨rfl, trivial⟩ (lm_hg _ Is116 (by omega) (fun H117 hH117 => (h_fgt (E := fun s => s 98 15 = t0 98 15 ∧ s 98 16 = t0 98 16 ∧ s 98 17 = t0 98 17 ∧ s 98 18 = t0 98 18 ∧ s 98 13 = t0 98 13 ∧ s 98 14 = t0 98 14 ∧ s 98 5 = t0 98 5 ∧ s 98 6 = t0 98 6 ∧ s 98 7 = t0 98 7 ∧ s 98 8 = H115 ∧ s 98 9 = H117 ∧ s 101 18 = t0 101 18 ∧ s 101 25 = t0 101 25 ∧ s 101 43 = t0 101 43 ∧ s = h_up s116 98 9 H117) _ (if_98_9 Is116 (by omega)) (Fs116.up rfl) ⟨es116.1, es116.2.1, es116.2.2.1, es116.2.2.2.1, es116.2.2.2.2.1, es116.2.2.2.2.2.1, es116.2.2.2.2.2.2.1, es116.2.2.2.2.2.2.2.1, es116.2.2.2.2.2.2.2.2.1, es116.2.2.2.2.2.2.2.2.2.1, rfl, es116.2.2.2.2.2.2.2.2.2.2.2.1, es116.2.2.2.2.2.2.2.2.2.2.2.2.1, es116.2.2.2.2.2.2.2.2.2.2.2.2.2.1, rfl⟩ (fun s118 Is118 Fs118 (es118 : s118 98 15 = t0 98 15 ∧ s118 98 16 = t0 98 16 ∧ s118 98 17 = t0 98 17 ∧ s118 98 18 = t0 98 18 ∧ s118 98 13 = t0 98 13 ∧ s118 98 14 = t0 98 14 ∧ s118 98 5 = t0 98 5 ∧ s118 98 6 = t0 98 6 ∧ s118 98 7 = t0 98 7 ∧ s118 98 8 = H115 ∧ s118 98 9 = H117 ∧ s118 101 18 = t0 101 18 ∧ s118 101 25 = t0 101 25 ∧ s118 101 43 = t0 101 43 ∧ s118 = h_up s116 98 9 H117) => ?_))))
            clear es116
            have us118 := es118.2.2.2.2.2.2.2.2.2.2.2.2.2.2
            refine h_aload_n (pc' := 131) rfl rfl rfl ?_
            refine h_getR (pc' := 134) rfl rfl rfl rfl rfl ?_
            refine h_bipush (pc' := 136) (x := (Int32.ofInt 35)) rfl rfl cb_35 ?_
            refine h_aload_n (pc' := 137) rfl rfl rfl ?_
            refine h_getR (pc' := 140) rfl rfl rfl rfl rfl ?_
            refine h_bipush (pc' := 142) (x := (Int32.ofInt 43)) rfl rfl cb_43 ?_
            refine h_iald (pc' := 143) (v := t0 101 43) rfl rfl rfl ci_43 (by omega) (by omega) es118.2.2.2.2.2.2.2.2.2.2.2.2.2.1 (fun z119 hz119 => ?_)
            refine h_iadd (pc' := 144) rfl rfl ci_35 hz119 rfl (by omega) (by omega) (fun z120 hz120 => ?_)
            clear hz119
            refine h_aload_n (pc' := 145) rfl rfl rfl ?_
            refine h_getI (pc' := 148) (v := t0 98 18) rfl rfl rfl rfl rfl es118.2.2.2.1 (fun z121 hz121 => ?_)
            refine h_iast (pc' := 149) rfl rfl rfl rfl hz120 (by omega) (by omega) hz121 (h_fgt (E := fun s => s 98 15 = t0 98 15 ∧ s 98 16 = t0 98 16 ∧ s 98 17 = t0 98 17 ∧ s 98 18 = t0 98 18 ∧ s 98 13 = t0 98 13 ∧ s 98 14 = t0 98 14 ∧ s 98 5 = t0 98 5 ∧ s 98 6 = t0 98 6 ∧ s 98 7 = t0 98 7 ∧ s 98 8 = H115 ∧ s 98 9 = H117 ∧ s 101 18 = t0 101 18 ∧ s 101 25 = t0 101 25 ∧ s 101 43 = t0 101 43 ∧ s = h_up s118 101 (35 + (t0 101 43)) (t0 98 18)) _ (ip_101_9 Is118 (by omega) (by omega)) (Fs118.up rfl) ⟨es118.1, es118.2.1, es118.2.2.1, es118.2.2.2.1, es118.2.2.2.2.1, es118.2.2.2.2.2.1, es118.2.2.2.2.2.2.1, es118.2.2.2.2.2.2.2.1, es118.2.2.2.2.2.2.2.2.1, es118.2.2.2.2.2.2.2.2.2.1, es118.2.2.2.2.2.2.2.2.2.2.1, h_up_n2 (by omega) es118.2.2.2.2.2.2.2.2.2.2.2.1, h_up_n2 (by omega) es118.2.2.2.2.2.2.2.2.2.2.2.2.1, h_up_n2 (by omega) es118.2.2.2.2.2.2.2.2.2.2.2.2.2.1, rfl⟩ (fun s122 Is122 Fs122 (es122 : s122 98 15 = t0 98 15 ∧ s122 98 16 = t0 98 16 ∧ s122 98 17 = t0 98 17 ∧ s122 98 18 = t0 98 18 ∧ s122 98 13 = t0 98 13 ∧ s122 98 14 = t0 98 14 ∧ s122 98 5 = t0 98 5 ∧ s122 98 6 = t0 98 6 ∧ s122 98 7 = t0 98 7 ∧ s122 98 8 = H115 ∧ s122 98 9 = H117 ∧ s122 101 18 = t0 101 18 ∧ s122 101 25 = t0 101 25 ∧ s122 101 43 = t0 101 43 ∧ s122 = h_up s118 101 (35 + (t0 101 43)) (t0 98 18)) => ?_))
            clear es118
            have us122 := es122.2.2.2.2.2.2.2.2.2.2.2.2.2.2
            clear hz120 hz121
            refine h_aload_n (pc' := 150) rfl rfl rfl ?_
            refine h_getR (pc' := 153) rfl rfl rfl rfl rfl ?_
            refine h_bipush (pc' := 155) (x := (Int32.ofInt 43)) rfl rfl cb_43 ?_
            refine h_dup2 (pc' := 156) rfl rfl rfl ?_
            refine h_iald (pc' := 157) (v := t0 101 43) rfl rfl rfl ci_43 (by omega) (by omega) es122.2.2.2.2.2.2.2.2.2.2.2.2.2.1 (fun z123 hz123 => ?_)
            refine h_iconst (pc' := 158) (x := (Int32.ofInt 1)) rfl rfl rfl ?_
            refine h_iadd (pc' := 159) rfl rfl hz123 ci_1 rfl (by omega) (by omega) (fun z124 hz124 => ?_)
            clear hz123
            refine h_iast (pc' := 160) rfl rfl rfl rfl ci_43 (by omega) (by omega) hz124 (h_fgt (E := fun s => s 98 15 = t0 98 15 ∧ s 98 16 = t0 98 16 ∧ s 98 17 = t0 98 17 ∧ s 98 18 = t0 98 18 ∧ s 98 13 = t0 98 13 ∧ s 98 14 = t0 98 14 ∧ s 98 5 = t0 98 5 ∧ s 98 6 = t0 98 6 ∧ s 98 7 = t0 98 7 ∧ s 98 8 = H115 ∧ s 98 9 = H117 ∧ s 101 18 = t0 101 18 ∧ s 101 25 = t0 101 25 ∧ s 101 43 = ((t0 101 43) + 1) ∧ s = h_up s122 101 43 ((t0 101 43) + 1)) _ (ip_101_10 Is122 (by omega) (by omega)) (Fs122.up rfl) ⟨es122.1, es122.2.1, es122.2.2.1, es122.2.2.2.1, es122.2.2.2.2.1, es122.2.2.2.2.2.1, es122.2.2.2.2.2.2.1, es122.2.2.2.2.2.2.2.1, es122.2.2.2.2.2.2.2.2.1, es122.2.2.2.2.2.2.2.2.2.1, es122.2.2.2.2.2.2.2.2.2.2.1, es122.2.2.2.2.2.2.2.2.2.2.2.1, es122.2.2.2.2.2.2.2.2.2.2.2.2.1, rfl, rfl⟩ (fun s125 Is125 Fs125 (es125 : s125 98 15 = t0 98 15 ∧ s125 98 16 = t0 98 16 ∧ s125 98 17 = t0 98 17 ∧ s125 98 18 = t0 98 18 ∧ s125 98 13 = t0 98 13 ∧ s125 98 14 = t0 98 14 ∧ s125 98 5 = t0 98 5 ∧ s125 98 6 = t0 98 6 ∧ s125 98 7 = t0 98 7 ∧ s125 98 8 = H115 ∧ s125 98 9 = H117 ∧ s125 101 18 = t0 101 18 ∧ s125 101 25 = t0 101 25 ∧ s125 101 43 = ((t0 101 43) + 1) ∧ s125 = h_up s122 101 43 ((t0 101 43) + 1)) => ?_))
            clear es122
            have us125 := es125.2.2.2.2.2.2.2.2.2.2.2.2.2.2
            refine h_aload_n (pc' := 161) rfl rfl rfl ?_
            refine d_pcall (g_inj ns) (m1 := 54) (pc1' := 79) (M1 := [(0, .ref 63)]) (rest1 := []) (m2 := 148) (pc2' := 164) (M2 := [(0, .ref 98)]) (rest2 := []) ⟨false, _, _, _, _, _, _, rfl, rfl, rfl, rfl, rfl, rfl, rfl⟩ ⟨false, _, _, _, _, _, _, rfl, rfl, rfl, rfl, rfl, rfl, rfl⟩ hRw102 ?_
            refine pp_step Is101 Is125 (hTL.fr (Fs101.mono rfl) (Fs125.mono rfl)) (Int.le_antisymm (by omega) (by omega)) (Int.le_antisymm (by omega) (by omega)) (Int.le_antisymm (by omega) (by omega)) (by omega) (Or.inr ⟨Int.le_antisymm (by omega) (by omega), Int.le_antisymm (by omega) (by omega)⟩) (fun sq126 tq126 Isq126 Itq126 Gsq126 Gtq126 yq126_0 yq126_1 yq126_2 yq126_3 yq126_4 pcq126 memq126 hRq126 => ?_)
            have Fsq126 := (Gsq126.mono (B := k_pl) rfl).tr Fs101
            have Ftq126 := (Gtq126.mono (B := k_pm) rfl).tr Fs125
            have esq126_6 : sq126 64 1 = s0 64 1 := (Gsq126 64 1 rfl).trans es101.2.2.2.2.2.2.1
            have esq126_7 : sq126 66 8 = s0 66 8 := (Gsq126 66 8 rfl).trans es101.2.2.2.2.2.2.2.1
            have esq126_8 : sq126 66 9 = s0 66 9 := (Gsq126 66 9 rfl).trans es101.2.2.2.2.2.2.2.2.1
            have esq126_9 : sq126 66 10 = ((s0 66 10) + 1) := (Gsq126 66 10 rfl).trans es101.2.2.2.2.2.2.2.2.2.1
            have esq126_10 : sq126 69 2 = s0 69 2 := (Gsq126 69 2 rfl).trans es101.2.2.2.2.2.2.2.2.2.2.1
            have esq126_11 : sq126 72 2 = s0 72 2 := (Gsq126 72 2 rfl).trans es101.2.2.2.2.2.2.2.2.2.2.2.1
            have esq126_12 : sq126 63 5 = s0 63 5 := (Gsq126 63 5 rfl).trans es101.2.2.2.2.2.2.2.2.2.2.2.2.1
            have etq126_6 : tq126 98 5 = t0 98 5 := (Gtq126 98 5 rfl).trans es125.2.2.2.2.2.2.1
            have etq126_7 : tq126 98 6 = t0 98 6 := (Gtq126 98 6 rfl).trans es125.2.2.2.2.2.2.2.1
            have etq126_8 : tq126 98 7 = t0 98 7 := (Gtq126 98 7 rfl).trans es125.2.2.2.2.2.2.2.2.1
            have etq126_9 : tq126 98 8 = H115 := (Gtq126 98 8 rfl).trans es125.2.2.2.2.2.2.2.2.2.1
            have etq126_10 : tq126 98 9 = H117 := (Gtq126 98 9 rfl).trans es125.2.2.2.2.2.2.2.2.2.2.1
            have etq126_11 : tq126 101 18 = t0 101 18 := (Gtq126 101 18 rfl).trans es125.2.2.2.2.2.2.2.2.2.2.2.1
            have etq126_12 : tq126 101 25 = t0 101 25 := (Gtq126 101 25 rfl).trans es125.2.2.2.2.2.2.2.2.2.2.2.2.1
            have etq126_13 : tq126 101 43 = ((t0 101 43) + 1) := (Gtq126 101 43 rfl).trans es125.2.2.2.2.2.2.2.2.2.2.2.2.2.1
            show h_T g_P (g_Y ns) 152 164 [(0, .ref 98)] [] tq126 _
            refine h_goto (pc' := 0) rfl rfl ?_
            refine d_toL (g_inj ns) hlw102 hRq126 (fun lvw127 memw127 hlw127 hRw127 => ?_)
            show h_T g_P (g_Y ns) 63 79 [(1, .int z64), (0, .ref 63)] [] sq126 _
            refine h_vret rfl rfl (d_retn hlv63 ?_)
            clear hz64
            refine h_iinc (pc' := 50) (M := fun z128 => [(1, .int z128), (0, .ref 63)]) rfl rfl rfl rfl hx1 ci_1 rfl (by omega) (by omega) (fun _ => rfl) (fun z128 hz128 => ?_)
            refine h_goto (pc' := 30) rfl rfl ?_
            have ga129 := tf_64_3 Isq126
            have ga130 := tf_63_2 Isq126
            exact h_wk [(0, .ref 63), (1, .int z128)] ⟨rfl, rfl, trivial⟩ (ih _ _ Isq126 Itq126 Fsq126 Ftq126 z128 _ hz128  (Int.le_antisymm (by omega) (by omega)) (Int.le_antisymm (by omega) (by omega)) (Int.le_antisymm (by omega) (by omega)) (by omega) (Int.le_antisymm (by omega) (by omega)) (Int.le_antisymm (by omega) (by omega)) (⟨by omega, by omega⟩) (by omega) (by omega) (fun _ => d_mk (esq126_7) (esq126_8) (esq126_9) (esq126_10) (esq126_11) (esq126_12) (fun j => (Gsq126 67 j rfl).trans ((h_upo us101 rfl j).trans ((h_upo us98 rfl j)))) (fun j => (Gsq126 68 j rfl).trans ((h_upo us101 rfl j).trans ((h_upo us98 rfl j)))) (fun j => (Gsq126 70 j rfl).trans ((h_upo us101 rfl j).trans ((h_upo us98 rfl j)))) (fun j => (Gsq126 71 j rfl).trans ((h_upo us101 rfl j).trans ((h_upo us98 rfl j)))) (fun j => (Gsq126 73 j rfl).trans ((h_upo us101 rfl j).trans ((h_upo us98 rfl j)))) (fun j => (Gsq126 74 j rfl).trans ((h_upo us101 rfl j).trans ((h_upo us98 rfl j)))) (fun j => (Gsq126 75 j rfl).trans ((h_upo us101 rfl j).trans ((h_upo us98 rfl j)))) (fun j => (Gsq126 76 j rfl).trans ((h_upo us101 rfl j).trans ((h_upo us98 rfl j)))) (fun j => (Gsq126 77 j rfl).trans ((h_upo us101 rfl j).trans ((h_upo us98 rfl j)))) (fun j => (Gsq126 78 j rfl).trans ((h_upo us101 rfl j).trans ((h_upi us98 j)))) (etq126_6) (etq126_7) (etq126_8) (etq126_9) (etq126_10) (fun j => (Gtq126 101 j rfl).trans ((h_upi us125 j).trans (congrArg (fun z => if j = 43 then ((t0 101 43) + 1) else z) ((h_upi us122 j).trans (congrArg (fun z => if j = (35 + (t0 101 43)) then (t0 98 18) else z) ((h_upo us118 rfl j).trans ((h_upo us116 rfl j)))))))) (r_act (ex9 (by omega)) (by omega) (by omega) (by omega) (by omega) (by omega) (by omega) (by omega) (by omega) (by omega) (by omega) (by omega) (by omega) (by omega) (by omega) (by omega) (by omega) (by omega))) (pcq126.elim (fun pcq126 => (Or.inl ⟨⟨by omega, by omega⟩, ⟨by omega, by omega⟩, Int.le_antisymm (by omega) (by omega), Int.le_antisymm (by omega) (by omega)⟩)) (fun pcq126 => (pcq126.elim (fun pcq126 => (Or.inr (Or.inl ⟨Int.le_antisymm (by omega) (by omega), Int.le_antisymm (by omega) (by omega), Int.le_antisymm (by omega) (by omega), Int.le_antisymm (by omega) (by omega), Int.le_antisymm (by omega) (by omega), Int.le_antisymm (by omega) (by omega)⟩))) (fun pcq126 => (pcq126.elim (fun pcq126 => (Or.inr (Or.inr (Or.inl ⟨Int.le_antisymm (by omega) (by omega), Int.le_antisymm (by omega) (by omega), Int.le_antisymm (by omega) (by omega), Int.le_antisymm (by omega) (by omega), Int.le_antisymm (by omega) (by omega), by omega, by omega⟩)))) (fun pcq126 => (pcq126.elim (fun pcq126 => (Or.inr (Or.inr (Or.inr (Or.inl ⟨Int.le_antisymm (by omega) (by omega), Int.le_antisymm (by omega) (by omega), Int.le_antisymm (by omega) (by omega), Int.le_antisymm (by omega) (by omega), ⟨by omega, by omega⟩, ⟨by omega, by omega⟩, Int.le_antisymm (by omega) (by omega), Int.le_antisymm (by omega) (by omega), by omega, by omega⟩))))) (fun pcq126 => (Or.inr (Or.inr (Or.inr (Or.inr ⟨Int.le_antisymm (by omega) (by omega), Int.le_antisymm (by omega) (by omega), Int.le_antisymm (by omega) (by omega), Int.le_antisymm (by omega) (by omega), Int.le_antisymm (by omega) (by omega), by omega, by omega⟩)))))))))))) (by omega) _ _ (h_al_ok ⟨rfl, trivial⟩ hlw127) hRw127)
          · clear hz93
            refine h_aload_n (pc' := 53) rfl rfl rfl ?_
            refine h_iconst (pc' := 54) (x := (Int32.ofInt 3)) rfl rfl rfl ?_
            refine h_aload_n (pc' := 55) rfl rfl rfl ?_
            refine h_getR (pc' := 58) rfl rfl rfl rfl rfl ?_
            refine h_getI (pc' := 61) (v := s0 64 4) rfl rfl rfl rfl rfl rfl (fun z131 hz131 => ?_)
            have tz131 := tf_64_4 I0
            refine h_call (sp := false) (pc' := 64) (M := [(0, .ref 63), (1, .int (Int32.ofInt 3)), (2, .int z131)]) rfl rfl rfl rfl rfl rfl rfl rfl ?_
            refine h_aload_n (pc' := 1) rfl rfl rfl ?_
            refine h_getI (pc' := 4) (v := s0 63 2) rfl rfl rfl rfl rfl rfl (fun z132 hz132 => ?_)
            refine h_zne (tg := 17) (pc' := 7) rfl rfl rfl hz132 (fun c133 => absurd (Int.le_antisymm (by omega) (by omega)) c133) (fun c133 => ?_)
            clear hz132
            refine h_aload_n (pc' := 8) rfl rfl rfl ?_
            refine h_iload_n (pc' := 9) rfl rfl rfl ?_
            refine h_put (pc' := 12) rfl rfl rfl rfl rfl rfl ci_3 rfl (h_fgt (E := fun s => s 64 2 = s0 64 2 ∧ s 64 4 = s0 64 4 ∧ s 64 3 = s0 64 3 ∧ s 64 5 = s0 64 5 ∧ s 63 2 = 3 ∧ s 63 3 = s0 63 3 ∧ s 64 1 = s0 64 1 ∧ s 66 8 = s0 66 8 ∧ s 66 9 = s0 66 9 ∧ s 66 10 = s0 66 10 ∧ s 69 2 = s0 69 2 ∧ s 72 2 = s0 72 2 ∧ s 63 5 = s0 63 5 ∧ s = h_up s0 63 2 3) _ (if_63_2 I0 (by omega)) (F0_.up rfl) ⟨rfl, rfl, rfl, rfl, rfl, rfl, rfl, rfl, rfl, rfl, rfl, rfl, rfl, rfl⟩ (fun s134 Is134 Fs134 (es134 : s134 64 2 = s0 64 2 ∧ s134 64 4 = s0 64 4 ∧ s134 64 3 = s0 64 3 ∧ s134 64 5 = s0 64 5 ∧ s134 63 2 = 3 ∧ s134 63 3 = s0 63 3 ∧ s134 64 1 = s0 64 1 ∧ s134 66 8 = s0 66 8 ∧ s134 66 9 = s0 66 9 ∧ s134 66 10 = s0 66 10 ∧ s134 69 2 = s0 69 2 ∧ s134 72 2 = s0 72 2 ∧ s134 63 5 = s0 63 5 ∧ s134 = h_up s0 63 2 3) => ?_))
            have us134 := es134.2.2.2.2.2.2.2.2.2.2.2.2.2
            refine h_aload_n (pc' := 13) rfl rfl rfl ?_
            refine h_iload_n (pc' := 14) rfl rfl rfl ?_
            refine h_put (pc' := 17) rfl rfl rfl rfl rfl rfl hz131 rfl (h_fgt (E := fun s => s 64 2 = s0 64 2 ∧ s 64 4 = s0 64 4 ∧ s 64 3 = s0 64 3 ∧ s 64 5 = s0 64 5 ∧ s 63 2 = 3 ∧ s 63 3 = (s0 64 4) ∧ s 64 1 = s0 64 1 ∧ s 66 8 = s0 66 8 ∧ s 66 9 = s0 66 9 ∧ s 66 10 = s0 66 10 ∧ s 69 2 = s0 69 2 ∧ s 72 2 = s0 72 2 ∧ s 63 5 = s0 63 5 ∧ s = h_up s134 63 3 (s0 64 4)) _ (if_63_3 Is134 (h_rgv hz131)) (Fs134.up rfl) ⟨es134.1, es134.2.1, es134.2.2.1, es134.2.2.2.1, es134.2.2.2.2.1, rfl, es134.2.2.2.2.2.2.1, es134.2.2.2.2.2.2.2.1, es134.2.2.2.2.2.2.2.2.1, es134.2.2.2.2.2.2.2.2.2.1, es134.2.2.2.2.2.2.2.2.2.2.1, es134.2.2.2.2.2.2.2.2.2.2.2.1, es134.2.2.2.2.2.2.2.2.2.2.2.2.1, rfl⟩ (fun s135 Is135 Fs135 (es135 : s135 64 2 = s0 64 2 ∧ s135 64 4 = s0 64 4 ∧ s135 64 3 = s0 64 3 ∧ s135 64 5 = s0 64 5 ∧ s135 63 2 = 3 ∧ s135 63 3 = (s0 64 4) ∧ s135 64 1 = s0 64 1 ∧ s135 66 8 = s0 66 8 ∧ s135 66 9 = s0 66 9 ∧ s135 66 10 = s0 66 10 ∧ s135 69 2 = s0 69 2 ∧ s135 72 2 = s0 72 2 ∧ s135 63 5 = s0 63 5 ∧ s135 = h_up s134 63 3 (s0 64 4)) => ?_))
            clear es134
            have us135 := es135.2.2.2.2.2.2.2.2.2.2.2.2.2
            refine h_vret rfl rfl (h_Kn ?_)
            refine h_goto (pc' := 79) rfl rfl ?_
            refine h_vret rfl rfl (d_retn hlv63 ?_)
            clear hz64
            refine h_iinc (pc' := 50) (M := fun z136 => [(1, .int z136), (0, .ref 63)]) rfl rfl rfl rfl hx1 ci_1 rfl (by omega) (by omega) (fun _ => rfl) (fun z136 hz136 => ?_)
            refine h_goto (pc' := 30) rfl rfl ?_
            refine d_toM (g_inj ns) hl2 hR2 (fun lvw137 memw137 hlw137 hRw137 => ?_)
            show h_T g_P (g_Y ns) 152 0 [(0, .ref 98)] [] t0 _
            refine h_aload_n (pc' := 1) rfl rfl rfl ?_
            refine h_getI (pc' := 4) (v := t0 98 13) rfl rfl rfl rfl rfl rfl (fun z138 hz138 => ?_)
            have tz138 := tf_98_13 J0
            refine h_zne (tg := 167) (pc' := 7) rfl rfl rfl hz138 (fun c139 => absurd (Int.le_antisymm (by omega) (by omega)) c139) (fun c139 => ?_)
            clear hz138
            refine h_aload_n (pc' := 8) rfl rfl rfl ?_
            refine h_getI (pc' := 11) (v := t0 98 17) rfl rfl rfl rfl rfl rfl (fun z140 hz140 => ?_)
            have tz140 := tf_98_17 J0
            refine h_iconst (pc' := 12) (x := (Int32.ofInt 2)) rfl rfl rfl ?_
            refine h_cne (tg := 167) (pc' := 15) rfl rfl rfl hz140 ci_2 (fun c141 => absurd (Int.le_antisymm (by omega) (by omega)) c141) (fun c141 => ?_)
            clear hz140
            refine h_aload_n (pc' := 16) rfl rfl rfl ?_
            refine h_getR (pc' := 19) rfl rfl rfl rfl rfl ?_
            refine h_bipush (pc' := 21) (x := (Int32.ofInt 43)) rfl rfl cb_43 ?_
            refine h_iald (pc' := 22) (v := t0 101 43) rfl rfl rfl ci_43 (by omega) (by omega) rfl (fun z142 hz142 => ?_)
            have tz142 := ty_101_10 J0 43 (by omega)
            refine h_bipush (pc' := 24) (x := (Int32.ofInt 8)) rfl rfl cb_8 ?_
            refine h_cne (tg := 35) (pc' := 27) rfl rfl rfl hz142 ci_8 (fun c143 => ?_) (fun c143 => absurd c143 (by omega))
            clear hz142
            refine h_aload_n (pc' := 36) rfl rfl rfl ?_
            refine h_getI (pc' := 39) (v := t0 98 18) rfl rfl rfl rfl rfl rfl (fun z144 hz144 => ?_)
            have tz144 := tf_98_18 J0
            refine h_bipush (pc' := 41) (x := (Int32.ofInt 10)) rfl rfl cb_10 ?_
            refine h_idiv (pc' := 42) rfl rfl hz144 ci_10 (by omega) (by omega) (fun z145 hz145 => ?_)
            clear hz144
            refine h_bipush (pc' := 44) (x := (Int32.ofInt 6)) rfl rfl cb_6 ?_
            refine h_cge (tg := 58) (pc' := 47) rfl rfl rfl hz145 ci_6 (fun c146 => absurd c146 (by omega)) (fun c146 => ?_)
            clear hz145
            refine h_aload_n (pc' := 48) rfl rfl rfl ?_
            refine h_getI (pc' := 51) (v := t0 98 18) rfl rfl rfl rfl rfl rfl (fun z147 hz147 => ?_)
            refine h_bipush (pc' := 53) (x := (Int32.ofInt 10)) rfl rfl cb_10 ?_
            refine h_irem (pc' := 54) rfl rfl hz147 ci_10 (by omega) (by omega) (fun z148 hz148 => ?_)
            clear hz147
            refine h_iconst (pc' := 55) (x := (Int32.ofInt 3)) rfl rfl rfl ?_
            refine h_clt (tg := 66) (pc' := 58) rfl rfl rfl hz148 ci_3 (fun c149 => absurd c149 (by omega)) (fun c149 => ?_)
            clear hz148
            refine h_aload_n (pc' := 59) rfl rfl rfl ?_
            refine h_iconst (pc' := 60) (x := (Int32.ofInt 3)) rfl rfl rfl ?_
            refine h_call (sp := false) (pc' := 63) (M := [(0, .ref 98), (1, .int (Int32.ofInt 3))]) rfl rfl rfl rfl rfl rfl rfl rfl ?_
            refine h_aload_n (pc' := 1) rfl rfl rfl ?_
            refine h_getI (pc' := 4) (v := t0 98 13) rfl rfl rfl rfl rfl rfl (fun z150 hz150 => ?_)
            refine h_zne (tg := 20) (pc' := 7) rfl rfl rfl hz150 (fun c151 => absurd (Int.le_antisymm (by omega) (by omega)) c151) (fun c151 => ?_)
            clear hz150
            refine h_aload_n (pc' := 8) rfl rfl rfl ?_
            refine h_iload_n (pc' := 9) rfl rfl rfl ?_
            refine h_put (pc' := 12) rfl rfl rfl rfl rfl rfl ci_3 rfl (h_fgt (E := fun s => s 98 15 = t0 98 15 ∧ s 98 16 = t0 98 16 ∧ s 98 17 = t0 98 17 ∧ s 98 18 = t0 98 18 ∧ s 98 13 = 3 ∧ s 98 14 = t0 98 14 ∧ s 98 5 = t0 98 5 ∧ s 98 6 = t0 98 6 ∧ s 98 7 = t0 98 7 ∧ s 98 8 = t0 98 8 ∧ s 98 9 = t0 98 9 ∧ s 101 18 = t0 101 18 ∧ s 101 25 = t0 101 25 ∧ s 101 43 = t0 101 43 ∧ s = h_up t0 98 13 3) _ (if_98_13 J0 (by omega)) (H0_.up rfl) ⟨rfl, rfl, rfl, rfl, rfl, rfl, rfl, rfl, rfl, rfl, rfl, rfl, rfl, rfl, rfl⟩ (fun s152 Is152 Fs152 (es152 : s152 98 15 = t0 98 15 ∧ s152 98 16 = t0 98 16 ∧ s152 98 17 = t0 98 17 ∧ s152 98 18 = t0 98 18 ∧ s152 98 13 = 3 ∧ s152 98 14 = t0 98 14 ∧ s152 98 5 = t0 98 5 ∧ s152 98 6 = t0 98 6 ∧ s152 98 7 = t0 98 7 ∧ s152 98 8 = t0 98 8 ∧ s152 98 9 = t0 98 9 ∧ s152 101 18 = t0 101 18 ∧ s152 101 25 = t0 101 25 ∧ s152 101 43 = t0 101 43 ∧ s152 = h_up t0 98 13 3) => ?_))
            have us152 := es152.2.2.2.2.2.2.2.2.2.2.2.2.2.2
            refine h_aload_n (pc' := 13) rfl rfl rfl ?_
            refine h_aload_n (pc' := 14) rfl rfl rfl ?_
            refine h_getI (pc' := 17) (v := t0 98 16) rfl rfl rfl rfl rfl es152.2.1 (fun z153 hz153 => ?_)
            have tz153 := tf_98_16 J0
            refine h_put (pc' := 20) rfl rfl rfl rfl rfl rfl hz153 rfl (h_fgt (E := fun s => s 98 15 = t0 98 15 ∧ s 98 16 = t0 98 16 ∧ s 98 17 = t0 98 17 ∧ s 98 18 = t0 98 18 ∧ s 98 13 = 3 ∧ s 98 14 = (t0 98 16) ∧ s 98 5 = t0 98 5 ∧ s 98 6 = t0 98 6 ∧ s 98 7 = t0 98 7 ∧ s 98 8 = t0 98 8 ∧ s 98 9 = t0 98 9 ∧ s 101 18 = t0 101 18 ∧ s 101 25 = t0 101 25 ∧ s 101 43 = t0 101 43 ∧ s = h_up s152 98 14 (t0 98 16)) _ (if_98_14 Is152 (h_rgv hz153)) (Fs152.up rfl) ⟨es152.1, es152.2.1, es152.2.2.1, es152.2.2.2.1, es152.2.2.2.2.1, rfl, es152.2.2.2.2.2.2.1, es152.2.2.2.2.2.2.2.1, es152.2.2.2.2.2.2.2.2.1, es152.2.2.2.2.2.2.2.2.2.1, es152.2.2.2.2.2.2.2.2.2.2.1, es152.2.2.2.2.2.2.2.2.2.2.2.1, es152.2.2.2.2.2.2.2.2.2.2.2.2.1, es152.2.2.2.2.2.2.2.2.2.2.2.2.2.1, rfl⟩ (fun s154 Is154 Fs154 (es154 : s154 98 15 = t0 98 15 ∧ s154 98 16 = t0 98 16 ∧ s154 98 17 = t0 98 17 ∧ s154 98 18 = t0 98 18 ∧ s154 98 13 = 3 ∧ s154 98 14 = (t0 98 16) ∧ s154 98 5 = t0 98 5 ∧ s154 98 6 = t0 98 6 ∧ s154 98 7 = t0 98 7 ∧ s154 98 8 = t0 98 8 ∧ s154 98 9 = t0 98 9 ∧ s154 101 18 = t0 101 18 ∧ s154 101 25 = t0 101 25 ∧ s154 101 43 = t0 101 43 ∧ s154 = h_up s152 98 14 (t0 98 16)) => ?_))
            clear es152
            have us154 := es154.2.2.2.2.2.2.2.2.2.2.2.2.2.2
            refine h_vret rfl rfl (h_Kn ?_)
            refine h_goto (pc' := 0) rfl rfl ?_
            refine d_toL (g_inj ns) hlw137 hRw137 (fun lvw155 memw155 hlw155 hRw155 => ?_)
            show h_T g_P (g_Y ns) 62 30 [(1, .int z136), (0, .ref 63)] [] s135 _
            have ga156 := tf_64_3 Is135
            have ga157 := tf_63_2 Is135
            exact h_wk [(0, .ref 63), (1, .int z136)] ⟨rfl, rfl, trivial⟩ (ih _ _ Is135 Is154 Fs135 Fs154 z136 _ hz136  (Int.le_antisymm (by omega) (by omega)) (Int.le_antisymm (by omega) (by omega)) (Int.le_antisymm (by omega) (by omega)) (by omega) (Int.le_antisymm (by omega) (by omega)) (Int.le_antisymm (by omega) (by omega)) (⟨by omega, by omega⟩) (by omega) (by omega) (fun h => absurd h (by omega)) (Or.inl ⟨⟨by omega, by omega⟩, ⟨by omega, by omega⟩, Int.le_antisymm (by omega) (by omega), Int.le_antisymm (by omega) (by omega)⟩) (by omega) _ _ (h_al_ok ⟨rfl, trivial⟩ hlw155) hRw155)
      · clear hz65
        refine h_aload_n (pc' := 21) rfl rfl rfl ?_
        refine h_iconst (pc' := 22) (x := (Int32.ofInt 5)) rfl rfl rfl ?_
        refine h_aload_n (pc' := 23) rfl rfl rfl ?_
        refine h_getR (pc' := 26) rfl rfl rfl rfl rfl ?_
        refine h_getI (pc' := 29) (v := s0 64 4) rfl rfl rfl rfl rfl rfl (fun z158 hz158 => ?_)
        have tz158 := tf_64_4 I0
        refine h_call (sp := false) (pc' := 32) (M := [(0, .ref 63), (1, .int (Int32.ofInt 5)), (2, .int z158)]) rfl rfl rfl rfl rfl rfl rfl rfl ?_
        refine h_aload_n (pc' := 1) rfl rfl rfl ?_
        refine h_getI (pc' := 4) (v := s0 63 2) rfl rfl rfl rfl rfl rfl (fun z159 hz159 => ?_)
        refine h_zne (tg := 17) (pc' := 7) rfl rfl rfl hz159 (fun c160 => absurd (Int.le_antisymm (by omega) (by omega)) c160) (fun c160 => ?_)
        clear hz159
        refine h_aload_n (pc' := 8) rfl rfl rfl ?_
        refine h_iload_n (pc' := 9) rfl rfl rfl ?_
        refine h_put (pc' := 12) rfl rfl rfl rfl rfl rfl ci_5 rfl (h_fgt (E := fun s => s 64 2 = s0 64 2 ∧ s 64 4 = s0 64 4 ∧ s 64 3 = s0 64 3 ∧ s 64 5 = s0 64 5 ∧ s 63 2 = 5 ∧ s 63 3 = s0 63 3 ∧ s 64 1 = s0 64 1 ∧ s 66 8 = s0 66 8 ∧ s 66 9 = s0 66 9 ∧ s 66 10 = s0 66 10 ∧ s 69 2 = s0 69 2 ∧ s 72 2 = s0 72 2 ∧ s 63 5 = s0 63 5 ∧ s = h_up s0 63 2 5) _ (if_63_2 I0 (by omega)) (F0_.up rfl) ⟨rfl, rfl, rfl, rfl, rfl, rfl, rfl, rfl, rfl, rfl, rfl, rfl, rfl, rfl⟩ (fun s161 Is161 Fs161 (es161 : s161 64 2 = s0 64 2 ∧ s161 64 4 = s0 64 4 ∧ s161 64 3 = s0 64 3 ∧ s161 64 5 = s0 64 5 ∧ s161 63 2 = 5 ∧ s161 63 3 = s0 63 3 ∧ s161 64 1 = s0 64 1 ∧ s161 66 8 = s0 66 8 ∧ s161 66 9 = s0 66 9 ∧ s161 66 10 = s0 66 10 ∧ s161 69 2 = s0 69 2 ∧ s161 72 2 = s0 72 2 ∧ s161 63 5 = s0 63 5 ∧ s161 = h_up s0 63 2 5) => ?_))
        have us161 := es161.2.2.2.2.2.2.2.2.2.2.2.2.2
        refine h_aload_n (pc' := 13) rfl rfl rfl ?_
        refine h_iload_n (pc' := 14) rfl rfl rfl ?_
        refine h_put (pc' := 17) rfl rfl rfl rfl rfl rfl hz158 rfl (h_fgt (E := fun s => s 64 2 = s0 64 2 ∧ s 64 4 = s0 64 4 ∧ s 64 3 = s0 64 3 ∧ s 64 5 = s0 64 5 ∧ s 63 2 = 5 ∧ s 63 3 = (s0 64 4) ∧ s 64 1 = s0 64 1 ∧ s 66 8 = s0 66 8 ∧ s 66 9 = s0 66 9 ∧ s 66 10 = s0 66 10 ∧ s 69 2 = s0 69 2 ∧ s 72 2 = s0 72 2 ∧ s 63 5 = s0 63 5 ∧ s = h_up s161 63 3 (s0 64 4)) _ (if_63_3 Is161 (h_rgv hz158)) (Fs161.up rfl) ⟨es161.1, es161.2.1, es161.2.2.1, es161.2.2.2.1, es161.2.2.2.2.1, rfl, es161.2.2.2.2.2.2.1, es161.2.2.2.2.2.2.2.1, es161.2.2.2.2.2.2.2.2.1, es161.2.2.2.2.2.2.2.2.2.1, es161.2.2.2.2.2.2.2.2.2.2.1, es161.2.2.2.2.2.2.2.2.2.2.2.1, es161.2.2.2.2.2.2.2.2.2.2.2.2.1, rfl⟩ (fun s162 Is162 Fs162 (es162 : s162 64 2 = s0 64 2 ∧ s162 64 4 = s0 64 4 ∧ s162 64 3 = s0 64 3 ∧ s162 64 5 = s0 64 5 ∧ s162 63 2 = 5 ∧ s162 63 3 = (s0 64 4) ∧ s162 64 1 = s0 64 1 ∧ s162 66 8 = s0 66 8 ∧ s162 66 9 = s0 66 9 ∧ s162 66 10 = s0 66 10 ∧ s162 69 2 = s0 69 2 ∧ s162 72 2 = s0 72 2 ∧ s162 63 5 = s0 63 5 ∧ s162 = h_up s161 63 3 (s0 64 4)) => ?_))
        clear es161
        have us162 := es162.2.2.2.2.2.2.2.2.2.2.2.2.2
        refine h_vret rfl rfl (h_Kn ?_)
        refine h_goto (pc' := 79) rfl rfl ?_
        refine h_vret rfl rfl (d_retn hlv63 ?_)
        clear hz64
        refine h_iinc (pc' := 50) (M := fun z163 => [(1, .int z163), (0, .ref 63)]) rfl rfl rfl rfl hx1 ci_1 rfl (by omega) (by omega) (fun _ => rfl) (fun z163 hz163 => ?_)
        refine h_goto (pc' := 30) rfl rfl ?_
        refine d_toM (g_inj ns) hl2 hR2 (fun lvw164 memw164 hlw164 hRw164 => ?_)
        show h_T g_P (g_Y ns) 152 0 [(0, .ref 98)] [] t0 _
        refine h_aload_n (pc' := 1) rfl rfl rfl ?_
        refine h_getI (pc' := 4) (v := t0 98 13) rfl rfl rfl rfl rfl rfl (fun z165 hz165 => ?_)
        have tz165 := tf_98_13 J0
        refine h_zne (tg := 167) (pc' := 7) rfl rfl rfl hz165 (fun c166 => absurd (Int.le_antisymm (by omega) (by omega)) c166) (fun c166 => ?_)
        clear hz165
        refine h_aload_n (pc' := 8) rfl rfl rfl ?_
        refine h_getI (pc' := 11) (v := t0 98 17) rfl rfl rfl rfl rfl rfl (fun z167 hz167 => ?_)
        have tz167 := tf_98_17 J0
        refine h_iconst (pc' := 12) (x := (Int32.ofInt 2)) rfl rfl rfl ?_
        refine h_cne (tg := 167) (pc' := 15) rfl rfl rfl hz167 ci_2 (fun c168 => absurd (Int.le_antisymm (by omega) (by omega)) c168) (fun c168 => ?_)
        clear hz167
        refine h_aload_n (pc' := 16) rfl rfl rfl ?_
        refine h_getR (pc' := 19) rfl rfl rfl rfl rfl ?_
        refine h_bipush (pc' := 21) (x := (Int32.ofInt 43)) rfl rfl cb_43 ?_
        refine h_iald (pc' := 22) (v := t0 101 43) rfl rfl rfl ci_43 (by omega) (by omega) rfl (fun z169 hz169 => ?_)
        have tz169 := ty_101_10 J0 43 (by omega)
        refine h_bipush (pc' := 24) (x := (Int32.ofInt 8)) rfl rfl cb_8 ?_
        refine h_cne (tg := 35) (pc' := 27) rfl rfl rfl hz169 ci_8 (fun c170 => absurd (Int.le_antisymm (by omega) (by omega)) c170) (fun c170 => ?_)
        clear hz169
        refine h_aload_n (pc' := 28) rfl rfl rfl ?_
        refine h_iconst (pc' := 29) (x := (Int32.ofInt 5)) rfl rfl rfl ?_
        refine h_call (sp := false) (pc' := 32) (M := [(0, .ref 98), (1, .int (Int32.ofInt 5))]) rfl rfl rfl rfl rfl rfl rfl rfl ?_
        refine h_aload_n (pc' := 1) rfl rfl rfl ?_
        refine h_getI (pc' := 4) (v := t0 98 13) rfl rfl rfl rfl rfl rfl (fun z171 hz171 => ?_)
        refine h_zne (tg := 20) (pc' := 7) rfl rfl rfl hz171 (fun c172 => absurd (Int.le_antisymm (by omega) (by omega)) c172) (fun c172 => ?_)
        clear hz171
        refine h_aload_n (pc' := 8) rfl rfl rfl ?_
        refine h_iload_n (pc' := 9) rfl rfl rfl ?_
        refine h_put (pc' := 12) rfl rfl rfl rfl rfl rfl ci_5 rfl (h_fgt (E := fun s => s 98 15 = t0 98 15 ∧ s 98 16 = t0 98 16 ∧ s 98 17 = t0 98 17 ∧ s 98 18 = t0 98 18 ∧ s 98 13 = 5 ∧ s 98 14 = t0 98 14 ∧ s 98 5 = t0 98 5 ∧ s 98 6 = t0 98 6 ∧ s 98 7 = t0 98 7 ∧ s 98 8 = t0 98 8 ∧ s 98 9 = t0 98 9 ∧ s 101 18 = t0 101 18 ∧ s 101 25 = t0 101 25 ∧ s 101 43 = t0 101 43 ∧ s = h_up t0 98 13 5) _ (if_98_13 J0 (by omega)) (H0_.up rfl) ⟨rfl, rfl, rfl, rfl, rfl, rfl, rfl, rfl, rfl, rfl, rfl, rfl, rfl, rfl, rfl⟩ (fun s173 Is173 Fs173 (es173 : s173 98 15 = t0 98 15 ∧ s173 98 16 = t0 98 16 ∧ s173 98 17 = t0 98 17 ∧ s173 98 18 = t0 98 18 ∧ s173 98 13 = 5 ∧ s173 98 14 = t0 98 14 ∧ s173 98 5 = t0 98 5 ∧ s173 98 6 = t0 98 6 ∧ s173 98 7 = t0 98 7 ∧ s173 98 8 = t0 98 8 ∧ s173 98 9 = t0 98 9 ∧ s173 101 18 = t0 101 18 ∧ s173 101 25 = t0 101 25 ∧ s173 101 43 = t0 101 43 ∧ s173 = h_up t0 98 13 5) => ?_))
        have us173 := es173.2.2.2.2.2.2.2.2.2.2.2.2.2.2
        refine h_aload_n (pc' := 13) rfl rfl rfl ?_
        refine h_aload_n (pc' := 14) rfl rfl rfl ?_
        refine h_getI (pc' := 17) (v := t0 98 16) rfl rfl rfl rfl rfl es173.2.1 (fun z174 hz174 => ?_)
        have tz174 := tf_98_16 J0
        refine h_put (pc' := 20) rfl rfl rfl rfl rfl rfl hz174 rfl (h_fgt (E := fun s => s 98 15 = t0 98 15 ∧ s 98 16 = t0 98 16 ∧ s 98 17 = t0 98 17 ∧ s 98 18 = t0 98 18 ∧ s 98 13 = 5 ∧ s 98 14 = (t0 98 16) ∧ s 98 5 = t0 98 5 ∧ s 98 6 = t0 98 6 ∧ s 98 7 = t0 98 7 ∧ s 98 8 = t0 98 8 ∧ s 98 9 = t0 98 9 ∧ s 101 18 = t0 101 18 ∧ s 101 25 = t0 101 25 ∧ s 101 43 = t0 101 43 ∧ s = h_up s173 98 14 (t0 98 16)) _ (if_98_14 Is173 (h_rgv hz174)) (Fs173.up rfl) ⟨es173.1, es173.2.1, es173.2.2.1, es173.2.2.2.1, es173.2.2.2.2.1, rfl, es173.2.2.2.2.2.2.1, es173.2.2.2.2.2.2.2.1, es173.2.2.2.2.2.2.2.2.1, es173.2.2.2.2.2.2.2.2.2.1, es173.2.2.2.2.2.2.2.2.2.2.1, es173.2.2.2.2.2.2.2.2.2.2.2.1, es173.2.2.2.2.2.2.2.2.2.2.2.2.1, es173.2.2.2.2.2.2.2.2.2.2.2.2.2.1, rfl⟩ (fun s175 Is175 Fs175 (es175 : s175 98 15 = t0 98 15 ∧ s175 98 16 = t0 98 16 ∧ s175 98 17 = t0 98 17 ∧ s175 98 18 = t0 98 18 ∧ s175 98 13 = 5 ∧ s175 98 14 = (t0 98 16) ∧ s175 98 5 = t0 98 5 ∧ s175 98 6 = t0 98 6 ∧ s175 98 7 = t0 98 7 ∧ s175 98 8 = t0 98 8 ∧ s175 98 9 = t0 98 9 ∧ s175 101 18 = t0 101 18 ∧ s175 101 25 = t0 101 25 ∧ s175 101 43 = t0 101 43 ∧ s175 = h_up s173 98 14 (t0 98 16)) => ?_))
        clear es173
        have us175 := es175.2.2.2.2.2.2.2.2.2.2.2.2.2.2
        refine h_vret rfl rfl (h_Kn ?_)
        refine h_goto (pc' := 0) rfl rfl ?_
        refine d_toL (g_inj ns) hlw164 hRw164 (fun lvw176 memw176 hlw176 hRw176 => ?_)
        show h_T g_P (g_Y ns) 62 30 [(1, .int z163), (0, .ref 63)] [] s162 _
        have ga177 := tf_64_3 Is162
        have ga178 := tf_63_2 Is162
        exact h_wk [(0, .ref 63), (1, .int z163)] ⟨rfl, rfl, trivial⟩ (ih _ _ Is162 Is175 Fs162 Fs175 z163 _ hz163  (Int.le_antisymm (by omega) (by omega)) (Int.le_antisymm (by omega) (by omega)) (Int.le_antisymm (by omega) (by omega)) (by omega) (Int.le_antisymm (by omega) (by omega)) (Int.le_antisymm (by omega) (by omega)) (⟨by omega, by omega⟩) (by omega) (by omega) (fun h => absurd h (by omega)) (Or.inl ⟨⟨by omega, by omega⟩, ⟨by omega, by omega⟩, Int.le_antisymm (by omega) (by omega), Int.le_antisymm (by omega) (by omega)⟩) (by omega) _ _ (h_al_ok ⟨rfl, trivial⟩ hlw176) hRw176)
    · show h_T g_P (g_Y ns) 62 30 [(0, .ref 63), (1, .int x1)] [] s0 _
      refine h_iload_n (pc' := 31) rfl rfl rfl ?_
      refine h_bipush (pc' := 33) (x := (Int32.ofInt 8)) rfl rfl cb_8 ?_
      refine h_cgt (tg := 53) (pc' := 36) rfl rfl rfl hx1 ci_8 (fun c179 => absurd c179 (by omega)) (fun c179 => ?_)
      refine h_aload_n (pc' := 37) rfl rfl rfl ?_
      refine h_call (sp := false) (pc' := 40) (M := [(0, .ref 63)]) rfl rfl rfl rfl rfl rfl rfl rfl ?_
      refine h_aload_n (pc' := 1) rfl rfl rfl ?_
      refine h_getI (pc' := 4) (v := s0 63 2) rfl rfl rfl rfl rfl rfl (fun z180 hz180 => ?_)
      have tz180 := tf_63_2 I0
      refine h_zne (tg := 22) (pc' := 7) rfl rfl rfl hz180 (fun c181 => absurd (Int.le_antisymm (by omega) (by omega)) c181) (fun c181 => ?_)
      clear hz180
      refine h_aload_n (pc' := 8) rfl rfl rfl ?_
      refine h_getR (pc' := 11) rfl rfl rfl rfl rfl ?_
      refine h_getI (pc' := 14) (v := s0 64 3) rfl rfl rfl rfl rfl rfl (fun z182 hz182 => ?_)
      have tz182 := tf_64_3 I0
      refine h_iconst (pc' := 15) (x := (Int32.ofInt 2)) rfl rfl rfl ?_
      refine h_cne (tg := 22) (pc' := 18) rfl rfl rfl hz182 ci_2 (fun c183 => ?_) (fun c183 => absurd c183 (by omega))
      clear hz182
      refine h_iconst (pc' := 23) (x := (Int32.ofInt 0)) rfl rfl rfl ?_
      refine h_zret rfl rfl ci_0 (by omega) (h_Kv ?_)
      refine h_zeq (tg := 53) (pc' := 43) rfl rfl rfl ci_0 (fun c184 => ?_) (fun c184 => absurd (Int.le_antisymm (by omega) (by omega)) c184)
      refine d_toM (g_inj ns) hl2 hR2 (fun lvw185 memw185 hlw185 hRw185 => ?_)
      show h_T g_P (g_Y ns) 152 0 [(0, .ref 98)] [] t0 _
      refine h_aload_n (pc' := 1) rfl rfl rfl ?_
      refine h_getI (pc' := 4) (v := t0 98 13) rfl rfl rfl rfl rfl rfl (fun z186 hz186 => ?_)
      have tz186 := tf_98_13 J0
      refine h_zne (tg := 167) (pc' := 7) rfl rfl rfl hz186 (fun c187 => absurd (Int.le_antisymm (by omega) (by omega)) c187) (fun c187 => ?_)
      clear hz186
      refine h_aload_n (pc' := 8) rfl rfl rfl ?_
      refine h_getI (pc' := 11) (v := t0 98 17) rfl rfl rfl rfl rfl rfl (fun z188 hz188 => ?_)
      have tz188 := tf_98_17 J0
      refine h_iconst (pc' := 12) (x := (Int32.ofInt 2)) rfl rfl rfl ?_
      refine h_cne (tg := 167) (pc' := 15) rfl rfl rfl hz188 ci_2 (fun c189 => ?_) (fun c189 => absurd c189 (by omega))
      clear hz188
      refine d_toL (g_inj ns) hlw185 hRw185 (fun lvw190 memw190 hlw190 hRw190 => ?_)
      show h_T g_P (g_Y ns) 62 53 [(0, .ref 63), (1, .int x1)] [] s0 _
      exact h_wk [(0, .ref 63)] ⟨rfl, trivial⟩ (kx0 _ _ I0 J0 F0_ H0_ (Int.le_antisymm (by omega) (by omega)) (Int.le_antisymm (by omega) (by omega)) (Int.le_antisymm (by omega) (by omega)) (by omega) (by omega) (ex9) (Int.le_antisymm (by omega) (by omega)) (Int.le_antisymm (by omega) (by omega)) (Or.inr (Or.inr (Or.inr (Or.inr ⟨Int.le_antisymm (by omega) (by omega), Int.le_antisymm (by omega) (by omega), Int.le_antisymm (by omega) (by omega), Int.le_antisymm (by omega) (by omega), Int.le_antisymm (by omega) (by omega), by omega, by omega⟩)))) _ _ (h_al_ok ⟨rfl, trivial⟩ hlw190) hRw190)
