set_option maxHeartbeats 100000000 in
theorem ls_feu_c {ns : Nat} {σ1 σ2 : h_S} (hI1 : h_I σ1) (hI2 : h_I σ2) (hTL : d_tape σ1 σ2) (x2 : Int32) (a2 : Int) (hx2 : x2.toInt = a2) (y2 : Int32) (c2 : Int) (hy2 : y2.toInt = c2) (y3 : Int32) (c3 : Int) (hy3 : y3.toInt = c3) (H0 : Int) (pr0 : σ1 64 2 = σ2 98 15) (pr1 : σ1 64 4 = σ2 98 16) (pr2 : σ1 63 2 = σ2 98 13) (pr3 : σ1 66 8 = σ2 98 5) (pr4 : σ1 66 9 = σ2 98 6) (pr5 : σ1 66 10 = σ2 101 43) (pr6 : σ1 69 2 = σ2 101 18) (pr7 : σ1 72 2 = σ2 101 25) (pr8 : σ1 63 5 = σ2 98 7) (pr9 : σ1 64 2 ≤ σ1 64 1) (pr10 : d_RH σ1 σ2 H0) (pr11 : a2 = c3) (pr12 : 0 ≤ a2 ∧ a2 ≤ 5) (pr13 : c2 = σ2 101 25) (pr14 : H0 ≤ σ2 98 8) (pr15 : c3 ≤ σ2 98 8) (pr16 : σ2 98 8 = H0 ∨ σ2 98 8 = c3) (pc0 : ((σ1 63 2 = 0) ∧ (σ1 64 3 = 0) ∧ (0 ≤ σ1 72 2 ∧ σ1 72 2 ≤ 2) ∧ (σ2 98 13 = 0) ∧ (σ2 98 17 = 0) ∧ (0 ≤ σ2 101 25 ∧ σ2 101 25 ≤ 2) ∧ (σ1 64 4 = σ1 64 1)) ∨ ((σ1 63 2 = 0) ∧ (σ1 64 3 = 1) ∧ (0 ≤ σ1 72 2 ∧ σ1 72 2 ≤ 2) ∧ (σ2 98 13 = 0) ∧ (σ2 98 17 = 1) ∧ (0 ≤ σ2 101 25 ∧ σ2 101 25 ≤ 2) ∧ (σ1 64 4 < σ1 64 2)) ∨ ((σ1 63 2 = 0) ∧ (σ1 64 3 = 2) ∧ (0 ≤ σ1 72 2 ∧ σ1 72 2 ≤ 2) ∧ (σ2 98 13 = 0) ∧ (σ2 98 17 = 2) ∧ (0 ≤ σ2 101 25 ∧ σ2 101 25 ≤ 2) ∧ (0 ≤ σ1 64 5 ∧ σ1 64 5 ≤ 99) ∧ (0 ≤ σ2 98 18 ∧ σ2 98 18 ≤ 99) ∧ (σ1 64 5 = σ2 98 18) ∧ (σ1 64 4 < σ1 64 2)) ∨ ((σ1 63 2 = 0) ∧ (σ1 64 3 = 3) ∧ (0 ≤ σ1 72 2 ∧ σ1 72 2 ≤ 2) ∧ (σ2 98 13 = 0) ∧ (σ2 98 17 = 3) ∧ (0 ≤ σ2 101 25 ∧ σ2 101 25 ≤ 2) ∧ (σ1 64 4 < σ1 64 2))) {cs1 cs2 : List d_Fr} {Q : d_Q} (kx0 : ∀ (s t : h_S), h_I s → h_I t → h_F (k_in k_pl) s σ1 → h_F (k_in k_pm) t σ2 → (s 64 2 = t 98 15) → (s 64 4 = t 98 16) → (s 63 2 = t 98 13) → (s 64 2 ≤ s 64 1) → (σ1 64 2 ≤ s 64 2) → (d_ok s t) → (((1 ≤ s 63 2 ∧ s 63 2 ≤ 6) ∧ (1 ≤ t 98 13 ∧ t 98 13 ≤ 6) ∧ (s 63 2 = t 98 13) ∧ (s 63 3 = t 98 14)) ∨ ((s 63 2 = 0) ∧ (s 64 3 = 0) ∧ (t 98 13 = 0) ∧ (t 98 17 = 0) ∧ (s 64 4 = s 64 1)) ∨ ((s 63 2 = 0) ∧ (s 64 3 = 1) ∧ (t 98 13 = 0) ∧ (t 98 17 = 1) ∧ (s 64 4 < s 64 2)) ∨ ((s 63 2 = 0) ∧ (s 64 3 = 2) ∧ (t 98 13 = 0) ∧ (t 98 17 = 2) ∧ (0 ≤ s 64 5 ∧ s 64 5 ≤ 99) ∧ (0 ≤ t 98 18 ∧ t 98 18 ≤ 99) ∧ (s 64 5 = t 98 18) ∧ (s 64 4 < s 64 2)) ∨ ((s 63 2 = 0) ∧ (s 64 3 = 3) ∧ (t 98 13 = 0) ∧ (t 98 17 = 3) ∧ (s 64 4 < s 64 2) ∧ ((s 64 2 = σ1 64 2 ∧ s 64 3 = σ1 64 3) ∨ σ1 64 2 < s 64 2))) → ∀ lv2 mem2, h_loc [(0, .ref 98)] lv2 → h_R (g_Y ns) t mem2 → h_T g_P (g_Y ns) 60 64 [(0, .ref 63)] [] s (d_cs g_P (g_Y ns) cs1 (d_L g_P (g_Y ns) (151, 73, lv2, []) cs2 mem2 Q))) : ∀ lv2 mem2, h_loc [(0, .ref 98), (1, .int (Int32.ofInt 19)), (2, .int y2), (3, .int y3)] lv2 → h_R (g_Y ns) σ2 mem2 → h_T g_P (g_Y ns) 60 14 [(0, .ref 63), (1, .ref 72), (2, .int x2)] [] σ1 (d_cs g_P (g_Y ns) cs1 (d_L g_P (g_Y ns) (151, 5, lv2, []) cs2 mem2 Q)) := by
  intro lv2 mem2 hl2 hR2
  have hT := hTL.1
  have hL := hTL.2
  have F1 : h_F (k_in k_pl) σ1 σ1 := h_F.rf
  have F2 : h_F (k_in k_pm) σ2 σ2 := h_F.rf
  have ge0 := tf_64_1 hI1
  have ge1 := tf_66_8 hI1
  have ge2 := tf_66_9 hI1
  have ge3 := tf_66_10 hI1
  have ge4 := tf_69_2 hI1
  have ge5 := tf_72_2 hI1
  have ge6 := tf_63_5 hI1
  have ge7 := tf_63_2 hI1
  have ge8 := tf_98_8 hI2
  have ge9 := tf_98_9 hI2
  have ge10 := tf_98_13 hI2
  rcases pc0 with pc0 | pc0 | pc0 | pc0
  · show h_T g_P (g_Y ns) 60 14 [(0, .ref 63), (1, .ref 72), (2, .int x2)] [] σ1 _
    refine h_aload_n (pc' := 15) rfl rfl rfl ?_
    refine h_call (sp := false) (pc' := 18) (M := [(0, .ref 63)]) rfl rfl rfl rfl rfl rfl rfl rfl ?_
    refine h_aload_n (pc' := 1) rfl rfl rfl ?_
    refine h_getI (pc' := 4) (v := σ1 63 2) rfl rfl rfl rfl rfl rfl (fun z21 hz21 => ?_)
    have tz21 := tf_63_2 hI1
    refine h_zne (tg := 22) (pc' := 7) rfl rfl rfl hz21 (fun c22 => absurd (Int.le_antisymm (by omega) (by omega)) c22) (fun c22 => ?_)
    clear hz21
    refine h_aload_n (pc' := 8) rfl rfl rfl ?_
    refine h_getR (pc' := 11) rfl rfl rfl rfl rfl ?_
    refine h_getI (pc' := 14) (v := σ1 64 3) rfl rfl rfl rfl rfl rfl (fun z23 hz23 => ?_)
    have tz23 := tf_64_3 hI1
    refine h_iconst (pc' := 15) (x := (Int32.ofInt 2)) rfl rfl rfl ?_
    refine h_cne (tg := 22) (pc' := 18) rfl rfl rfl hz23 ci_2 (fun c24 => ?_) (fun c24 => absurd c24 (by omega))
    clear hz23
    refine h_iconst (pc' := 23) (x := (Int32.ofInt 0)) rfl rfl rfl ?_
    refine h_zret rfl rfl ci_0 (by omega) (h_Kv ?_)
    refine h_zeq (tg := 44) (pc' := 21) rfl rfl rfl ci_0 (fun c25 => ?_) (fun c25 => absurd (Int.le_antisymm (by omega) (by omega)) c25)
    refine d_toM (g_inj ns) hl2 hR2 (fun lvw26 memw26 hlw26 hRw26 => ?_)
    show h_T g_P (g_Y ns) 151 5 [(0, .ref 98), (1, .int (Int32.ofInt 19)), (2, .int y2), (3, .int y3)] [] σ2 _
    refine h_aload_n (pc' := 6) rfl rfl rfl ?_
    refine h_getI (pc' := 9) (v := σ2 98 13) rfl rfl rfl rfl rfl rfl (fun z27 hz27 => ?_)
    have tz27 := tf_98_13 hI2
    refine h_zne (tg := 33) (pc' := 12) rfl rfl rfl hz27 (fun c28 => absurd (Int.le_antisymm (by omega) (by omega)) c28) (fun c28 => ?_)
    clear hz27
    refine h_aload_n (pc' := 13) rfl rfl rfl ?_
    refine h_getI (pc' := 16) (v := σ2 98 17) rfl rfl rfl rfl rfl rfl (fun z29 hz29 => ?_)
    have tz29 := tf_98_17 hI2
    refine h_iconst (pc' := 17) (x := (Int32.ofInt 2)) rfl rfl rfl ?_
    refine h_cne (tg := 33) (pc' := 20) rfl rfl rfl hz29 ci_2 (fun c30 => ?_) (fun c30 => absurd c30 (by omega))
    clear hz29
    refine d_toL (g_inj ns) hlw26 hRw26 (fun lvw31 memw31 hlw31 hRw31 => ?_)
    show h_T g_P (g_Y ns) 60 44 [(0, .ref 63), (1, .ref 72), (2, .int x2)] [] σ1 _
    refine h_wk [(0, .ref 63), (1, .ref 72), (2, .int x2)] ⟨rfl, rfl, rfl, trivial⟩ (ls_feu_d hI1 hI2 (hTL.fr (F1.mono rfl) (F2.mono rfl)) x2 _ hx2 y2 _ hy2 y3 _ hy3 H0 (Int.le_antisymm (by omega) (by omega)) (Int.le_antisymm (by omega) (by omega)) (Int.le_antisymm (by omega) (by omega)) (Int.le_antisymm (by omega) (by omega)) (Int.le_antisymm (by omega) (by omega)) (Int.le_antisymm (by omega) (by omega)) (Int.le_antisymm (by omega) (by omega)) (Int.le_antisymm (by omega) (by omega)) (Int.le_antisymm (by omega) (by omega)) (by omega) (pr10) (Int.le_antisymm (by omega) (by omega)) (⟨by omega, by omega⟩) (Int.le_antisymm (by omega) (by omega)) (by omega) (by omega) (by omega) (Or.inl ⟨Int.le_antisymm (by omega) (by omega), Int.le_antisymm (by omega) (by omega), ⟨by omega, by omega⟩, Int.le_antisymm (by omega) (by omega), Int.le_antisymm (by omega) (by omega), ⟨by omega, by omega⟩, Int.le_antisymm (by omega) (by omega)⟩) (fun sq32 tq32 Isq32 Itq32 Gsq32 Gtq32   yq32_0 yq32_1 yq32_2 yq32_3 yq32_4 yq32_5 pcq32 lvq32 memq32 hlq32 hRq32 => ?_) _ _ (h_al_ok ⟨rfl, rfl, rfl, rfl, trivial⟩ hlw31) hRw31)
    · have Fsq32 := (Gsq32.mono (B := k_pl) rfl).tr F1
      have Ftq32 := (Gtq32.mono (B := k_pm) rfl).tr F2
      have Isq32 := Isq32
      have Itq32 := Itq32
      have Gsq32 := Gsq32
      have Gtq32 := Gtq32
      have esq32_6 : sq32 64 1 = σ1 64 1 := (Gsq32 64 1 rfl).trans rfl
      show h_T g_P (g_Y ns) 60 64 [(0, .ref 63)] [] sq32 _
      refine d_toM (g_inj ns) hlq32 hRq32 (fun lvw33 memw33 hlw33 hRw33 => ?_)
      show h_T g_P (g_Y ns) 151 73 [(0, .ref 98)] [] tq32 _
      refine d_toL (g_inj ns) hlw33 hRw33 (fun lvw34 memw34 hlw34 hRw34 => ?_)
      show h_T g_P (g_Y ns) 60 64 [(0, .ref 63)] [] sq32 _
      exact h_wk [(0, .ref 63)] ⟨rfl, trivial⟩ (kx0 _ _ Isq32 Itq32 Fsq32 Ftq32 (Int.le_antisymm (by omega) (by omega)) (Int.le_antisymm (by omega) (by omega)) (Int.le_antisymm (by omega) (by omega)) (by omega) (by omega) (yq32_5) (pcq32.elim (fun pcq32 => (Or.inl ⟨⟨by omega, by omega⟩, ⟨by omega, by omega⟩, Int.le_antisymm (by omega) (by omega), Int.le_antisymm (by omega) (by omega)⟩)) (fun pcq32 => (pcq32.elim (fun pcq32 => (Or.inr (Or.inl ⟨Int.le_antisymm (by omega) (by omega), Int.le_antisymm (by omega) (by omega), Int.le_antisymm (by omega) (by omega), Int.le_antisymm (by omega) (by omega), Int.le_antisymm (by omega) (by omega)⟩))) (fun pcq32 => (pcq32.elim (fun pcq32 => (Or.inr (Or.inr (Or.inl ⟨Int.le_antisymm (by omega) (by omega), Int.le_antisymm (by omega) (by omega), Int.le_antisymm (by omega) (by omega), Int.le_antisymm (by omega) (by omega), by omega⟩)))) (fun pcq32 => (pcq32.elim (fun pcq32 => (Or.inr (Or.inr (Or.inr (Or.inl ⟨Int.le_antisymm (by omega) (by omega), Int.le_antisymm (by omega) (by omega), Int.le_antisymm (by omega) (by omega), Int.le_antisymm (by omega) (by omega), ⟨by omega, by omega⟩, ⟨by omega, by omega⟩, Int.le_antisymm (by omega) (by omega), by omega⟩))))) (fun pcq32 => (Or.inr (Or.inr (Or.inr (Or.inr ⟨Int.le_antisymm (by omega) (by omega), Int.le_antisymm (by omega) (by omega), Int.le_antisymm (by omega) (by omega), Int.le_antisymm (by omega) (by omega), by omega, by omega⟩)))))))))))) _ _ (h_al_ok ⟨rfl, trivial⟩ hlw34) hRw34)
  · show h_T g_P (g_Y ns) 60 14 [(0, .ref 63), (1, .ref 72), (2, .int x2)] [] σ1 _
    refine h_aload_n (pc' := 15) rfl rfl rfl ?_
    refine h_call (sp := false) (pc' := 18) (M := [(0, .ref 63)]) rfl rfl rfl rfl rfl rfl rfl rfl ?_
    refine h_aload_n (pc' := 1) rfl rfl rfl ?_
    refine h_getI (pc' := 4) (v := σ1 63 2) rfl rfl rfl rfl rfl rfl (fun z35 hz35 => ?_)
    have tz35 := tf_63_2 hI1
    refine h_zne (tg := 22) (pc' := 7) rfl rfl rfl hz35 (fun c36 => absurd (Int.le_antisymm (by omega) (by omega)) c36) (fun c36 => ?_)
    clear hz35
    refine h_aload_n (pc' := 8) rfl rfl rfl ?_
    refine h_getR (pc' := 11) rfl rfl rfl rfl rfl ?_
    refine h_getI (pc' := 14) (v := σ1 64 3) rfl rfl rfl rfl rfl rfl (fun z37 hz37 => ?_)
    have tz37 := tf_64_3 hI1
    refine h_iconst (pc' := 15) (x := (Int32.ofInt 2)) rfl rfl rfl ?_
    refine h_cne (tg := 22) (pc' := 18) rfl rfl rfl hz37 ci_2 (fun c38 => ?_) (fun c38 => absurd c38 (by omega))
    clear hz37
    refine h_iconst (pc' := 23) (x := (Int32.ofInt 0)) rfl rfl rfl ?_
    refine h_zret rfl rfl ci_0 (by omega) (h_Kv ?_)
    refine h_zeq (tg := 44) (pc' := 21) rfl rfl rfl ci_0 (fun c39 => ?_) (fun c39 => absurd (Int.le_antisymm (by omega) (by omega)) c39)
    refine d_toM (g_inj ns) hl2 hR2 (fun lvw40 memw40 hlw40 hRw40 => ?_)
    show h_T g_P (g_Y ns) 151 5 [(0, .ref 98), (1, .int (Int32.ofInt 19)), (2, .int y2), (3, .int y3)] [] σ2 _
    refine h_aload_n (pc' := 6) rfl rfl rfl ?_
    refine h_getI (pc' := 9) (v := σ2 98 13) rfl rfl rfl rfl rfl rfl (fun z41 hz41 => ?_)
    have tz41 := tf_98_13 hI2
    refine h_zne (tg := 33) (pc' := 12) rfl rfl rfl hz41 (fun c42 => absurd (Int.le_antisymm (by omega) (by omega)) c42) (fun c42 => ?_)
    clear hz41
    refine h_aload_n (pc' := 13) rfl rfl rfl ?_
    refine h_getI (pc' := 16) (v := σ2 98 17) rfl rfl rfl rfl rfl rfl (fun z43 hz43 => ?_)
    have tz43 := tf_98_17 hI2
    refine h_iconst (pc' := 17) (x := (Int32.ofInt 2)) rfl rfl rfl ?_
    refine h_cne (tg := 33) (pc' := 20) rfl rfl rfl hz43 ci_2 (fun c44 => ?_) (fun c44 => absurd c44 (by omega))
    clear hz43
    refine d_toL (g_inj ns) hlw40 hRw40 (fun lvw45 memw45 hlw45 hRw45 => ?_)
    show h_T g_P (g_Y ns) 60 44 [(0, .ref 63), (1, .ref 72), (2, .int x2)] [] σ1 _
    refine h_wk [(0, .ref 63), (1, .ref 72), (2, .int x2)] ⟨rfl, rfl, rfl, trivial⟩ (ls_feu_d hI1 hI2 (hTL.fr (F1.mono rfl) (F2.mono rfl)) x2 _ hx2 y2 _ hy2 y3 _ hy3 H0 (Int.le_antisymm (by omega) (by omega)) (Int.le_antisymm (by omega) (by omega)) (Int.le_antisymm (by omega) (by omega)) (Int.le_antisymm (by omega) (by omega)) (Int.le_antisymm (by omega) (by omega)) (Int.le_antisymm (by omega) (by omega)) (Int.le_antisymm (by omega) (by omega)) (Int.le_antisymm (by omega) (by omega)) (Int.le_antisymm (by omega) (by omega)) (by omega) (pr10) (Int.le_antisymm (by omega) (by omega)) (⟨by omega, by omega⟩) (Int.le_antisymm (by omega) (by omega)) (by omega) (by omega) (by omega) (Or.inr (Or.inl ⟨Int.le_antisymm (by omega) (by omega), Int.le_antisymm (by omega) (by omega), ⟨by omega, by omega⟩, Int.le_antisymm (by omega) (by omega), Int.le_antisymm (by omega) (by omega), ⟨by omega, by omega⟩, by omega⟩)) (fun sq46 tq46 Isq46 Itq46 Gsq46 Gtq46   yq46_0 yq46_1 yq46_2 yq46_3 yq46_4 yq46_5 pcq46 lvq46 memq46 hlq46 hRq46 => ?_) _ _ (h_al_ok ⟨rfl, rfl, rfl, rfl, trivial⟩ hlw45) hRw45)
    · have Fsq46 := (Gsq46.mono (B := k_pl) rfl).tr F1
      have Ftq46 := (Gtq46.mono (B := k_pm) rfl).tr F2
      have Isq46 := Isq46
      have Itq46 := Itq46
      have Gsq46 := Gsq46
      have Gtq46 := Gtq46
      have esq46_6 : sq46 64 1 = σ1 64 1 := (Gsq46 64 1 rfl).trans rfl
      show h_T g_P (g_Y ns) 60 64 [(0, .ref 63)] [] sq46 _
      refine d_toM (g_inj ns) hlq46 hRq46 (fun lvw47 memw47 hlw47 hRw47 => ?_)
      show h_T g_P (g_Y ns) 151 73 [(0, .ref 98)] [] tq46 _
      refine d_toL (g_inj ns) hlw47 hRw47 (fun lvw48 memw48 hlw48 hRw48 => ?_)
      show h_T g_P (g_Y ns) 60 64 [(0, .ref 63)] [] sq46 _
      exact h_wk [(0, .ref 63)] ⟨rfl, trivial⟩ (kx0 _ _ Isq46 Itq46 Fsq46 Ftq46 (Int.le_antisymm (by omega) (by omega)) (Int.le_antisymm (by omega) (by omega)) (Int.le_antisymm (by omega) (by omega)) (by omega) (by omega) (yq46_5) (pcq46.elim (fun pcq46 => (Or.inl ⟨⟨by omega, by omega⟩, ⟨by omega, by omega⟩, Int.le_antisymm (by omega) (by omega), Int.le_antisymm (by omega) (by omega)⟩)) (fun pcq46 => (pcq46.elim (fun pcq46 => (Or.inr (Or.inl ⟨Int.le_antisymm (by omega) (by omega), Int.le_antisymm (by omega) (by omega), Int.le_antisymm (by omega) (by omega), Int.le_antisymm (by omega) (by omega), Int.le_antisymm (by omega) (by omega)⟩))) (fun pcq46 => (pcq46.elim (fun pcq46 => (Or.inr (Or.inr (Or.inl ⟨Int.le_antisymm (by omega) (by omega), Int.le_antisymm (by omega) (by omega), Int.le_antisymm (by omega) (by omega), Int.le_antisymm (by omega) (by omega), by omega⟩)))) (fun pcq46 => (pcq46.elim (fun pcq46 => (Or.inr (Or.inr (Or.inr (Or.inl ⟨Int.le_antisymm (by omega) (by omega), Int.le_antisymm (by omega) (by omega), Int.le_antisymm (by omega) (by omega), Int.le_antisymm (by omega) (by omega), ⟨by omega, by omega⟩, ⟨by omega, by omega⟩, Int.le_antisymm (by omega) (by omega), by omega⟩))))) (fun pcq46 => (Or.inr (Or.inr (Or.inr (Or.inr ⟨Int.le_antisymm (by omega) (by omega), Int.le_antisymm (by omega) (by omega), Int.le_antisymm (by omega) (by omega), Int.le_antisymm (by omega) (by omega), by omega, by omega⟩)))))))))))) _ _ (h_al_ok ⟨rfl, trivial⟩ hlw48) hRw48)
  · show h_T g_P (g_Y ns) 60 14 [(0, .ref 63), (1, .ref 72), (2, .int x2)] [] σ1 _
    refine h_aload_n (pc' := 15) rfl rfl rfl ?_
    refine h_call (sp := false) (pc' := 18) (M := [(0, .ref 63)]) rfl rfl rfl rfl rfl rfl rfl rfl ?_
    refine h_aload_n (pc' := 1) rfl rfl rfl ?_
    refine h_getI (pc' := 4) (v := σ1 63 2) rfl rfl rfl rfl rfl rfl (fun z49 hz49 => ?_)
    have tz49 := tf_63_2 hI1
    refine h_zne (tg := 22) (pc' := 7) rfl rfl rfl hz49 (fun c50 => absurd (Int.le_antisymm (by omega) (by omega)) c50) (fun c50 => ?_)
    clear hz49
    refine h_aload_n (pc' := 8) rfl rfl rfl ?_
    refine h_getR (pc' := 11) rfl rfl rfl rfl rfl ?_
    refine h_getI (pc' := 14) (v := σ1 64 3) rfl rfl rfl rfl rfl rfl (fun z51 hz51 => ?_)
    have tz51 := tf_64_3 hI1
    refine h_iconst (pc' := 15) (x := (Int32.ofInt 2)) rfl rfl rfl ?_
    refine h_cne (tg := 22) (pc' := 18) rfl rfl rfl hz51 ci_2 (fun c52 => absurd (Int.le_antisymm (by omega) (by omega)) c52) (fun c52 => ?_)
    clear hz51
    refine h_iconst (pc' := 19) (x := (Int32.ofInt 1)) rfl rfl rfl ?_
    refine h_goto (pc' := 23) rfl rfl ?_
    refine h_zret rfl rfl ci_1 (by omega) (h_Kv ?_)
    refine h_zeq (tg := 44) (pc' := 21) rfl rfl rfl ci_1 (fun c53 => absurd c53 (by omega)) (fun c53 => ?_)
    refine h_aload_n (pc' := 22) rfl rfl rfl ?_
    refine h_getR (pc' := 25) rfl rfl rfl rfl rfl ?_
    refine h_getI (pc' := 28) (v := σ1 64 5) rfl rfl rfl rfl rfl rfl (fun z54 hz54 => ?_)
    have tz54 := tf_64_5 hI1
    refine h_iload_n (pc' := 29) rfl rfl rfl ?_
    refine h_cne (tg := 44) (pc' := 32) rfl rfl rfl hz54 hx2 (fun c55 => ?_) (fun c55 => ?_)
    · clear hz54
      refine d_toM (g_inj ns) hl2 hR2 (fun lvw56 memw56 hlw56 hRw56 => ?_)
      show h_T g_P (g_Y ns) 151 5 [(0, .ref 98), (1, .int (Int32.ofInt 19)), (2, .int y2), (3, .int y3)] [] σ2 _
      refine h_aload_n (pc' := 6) rfl rfl rfl ?_
      refine h_getI (pc' := 9) (v := σ2 98 13) rfl rfl rfl rfl rfl rfl (fun z57 hz57 => ?_)
      have tz57 := tf_98_13 hI2
      refine h_zne (tg := 33) (pc' := 12) rfl rfl rfl hz57 (fun c58 => absurd (Int.le_antisymm (by omega) (by omega)) c58) (fun c58 => ?_)
      clear hz57
      refine h_aload_n (pc' := 13) rfl rfl rfl ?_
      refine h_getI (pc' := 16) (v := σ2 98 17) rfl rfl rfl rfl rfl rfl (fun z59 hz59 => ?_)
      have tz59 := tf_98_17 hI2
      refine h_iconst (pc' := 17) (x := (Int32.ofInt 2)) rfl rfl rfl ?_
      refine h_cne (tg := 33) (pc' := 20) rfl rfl rfl hz59 ci_2 (fun c60 => absurd (Int.le_antisymm (by omega) (by omega)) c60) (fun c60 => ?_)
      clear hz59
      refine h_aload_n (pc' := 21) rfl rfl rfl ?_
      refine h_getI (pc' := 24) (v := σ2 98 18) rfl rfl rfl rfl rfl rfl (fun z61 hz61 => ?_)
      have tz61 := tf_98_18 hI2
      refine h_iload_n (pc' := 25) rfl rfl rfl ?_
      refine h_cne (tg := 33) (pc' := 28) rfl rfl rfl hz61 hy3 (fun c62 => ?_) (fun c62 => absurd c62 (by omega))
      clear hz61
      refine d_toL (g_inj ns) hlw56 hRw56 (fun lvw63 memw63 hlw63 hRw63 => ?_)
      show h_T g_P (g_Y ns) 60 44 [(0, .ref 63), (1, .ref 72), (2, .int x2)] [] σ1 _
      refine h_wk [(0, .ref 63), (1, .ref 72), (2, .int x2)] ⟨rfl, rfl, rfl, trivial⟩ (ls_feu_d hI1 hI2 (hTL.fr (F1.mono rfl) (F2.mono rfl)) x2 _ hx2 y2 _ hy2 y3 _ hy3 H0 (Int.le_antisymm (by omega) (by omega)) (Int.le_antisymm (by omega) (by omega)) (Int.le_antisymm (by omega) (by omega)) (Int.le_antisymm (by omega) (by omega)) (Int.le_antisymm (by omega) (by omega)) (Int.le_antisymm (by omega) (by omega)) (Int.le_antisymm (by omega) (by omega)) (Int.le_antisymm (by omega) (by omega)) (Int.le_antisymm (by omega) (by omega)) (by omega) (pr10) (Int.le_antisymm (by omega) (by omega)) (⟨by omega, by omega⟩) (Int.le_antisymm (by omega) (by omega)) (by omega) (by omega) (by omega) (Or.inr (Or.inr (Or.inl ⟨Int.le_antisymm (by omega) (by omega), Int.le_antisymm (by omega) (by omega), ⟨by omega, by omega⟩, Int.le_antisymm (by omega) (by omega), Int.le_antisymm (by omega) (by omega), ⟨by omega, by omega⟩, ⟨by omega, by omega⟩, ⟨by omega, by omega⟩, Int.le_antisymm (by omega) (by omega), by omega⟩))) (fun sq64 tq64 Isq64 Itq64 Gsq64 Gtq64   yq64_0 yq64_1 yq64_2 yq64_3 yq64_4 yq64_5 pcq64 lvq64 memq64 hlq64 hRq64 => ?_) _ _ (h_al_ok ⟨rfl, rfl, rfl, rfl, trivial⟩ hlw63) hRw63)
      · have Fsq64 := (Gsq64.mono (B := k_pl) rfl).tr F1
        have Ftq64 := (Gtq64.mono (B := k_pm) rfl).tr F2
        have Isq64 := Isq64
        have Itq64 := Itq64
        have Gsq64 := Gsq64
        have Gtq64 := Gtq64
        have esq64_6 : sq64 64 1 = σ1 64 1 := (Gsq64 64 1 rfl).trans rfl
        show h_T g_P (g_Y ns) 60 64 [(0, .ref 63)] [] sq64 _
        refine d_toM (g_inj ns) hlq64 hRq64 (fun lvw65 memw65 hlw65 hRw65 => ?_)
        show h_T g_P (g_Y ns) 151 73 [(0, .ref 98)] [] tq64 _
        refine d_toL (g_inj ns) hlw65 hRw65 (fun lvw66 memw66 hlw66 hRw66 => ?_)
        show h_T g_P (g_Y ns) 60 64 [(0, .ref 63)] [] sq64 _
        exact h_wk [(0, .ref 63)] ⟨rfl, trivial⟩ (kx0 _ _ Isq64 Itq64 Fsq64 Ftq64 (Int.le_antisymm (by omega) (by omega)) (Int.le_antisymm (by omega) (by omega)) (Int.le_antisymm (by omega) (by omega)) (by omega) (by omega) (yq64_5) (pcq64.elim (fun pcq64 => (Or.inl ⟨⟨by omega, by omega⟩, ⟨by omega, by omega⟩, Int.le_antisymm (by omega) (by omega), Int.le_antisymm (by omega) (by omega)⟩)) (fun pcq64 => (pcq64.elim (fun pcq64 => (Or.inr (Or.inl ⟨Int.le_antisymm (by omega) (by omega), Int.le_antisymm (by omega) (by omega), Int.le_antisymm (by omega) (by omega), Int.le_antisymm (by omega) (by omega), Int.le_antisymm (by omega) (by omega)⟩))) (fun pcq64 => (pcq64.elim (fun pcq64 => (Or.inr (Or.inr (Or.inl ⟨Int.le_antisymm (by omega) (by omega), Int.le_antisymm (by omega) (by omega), Int.le_antisymm (by omega) (by omega), Int.le_antisymm (by omega) (by omega), by omega⟩)))) (fun pcq64 => (pcq64.elim (fun pcq64 => (Or.inr (Or.inr (Or.inr (Or.inl ⟨Int.le_antisymm (by omega) (by omega), Int.le_antisymm (by omega) (by omega), Int.le_antisymm (by omega) (by omega), Int.le_antisymm (by omega) (by omega), ⟨by omega, by omega⟩, ⟨by omega, by omega⟩, Int.le_antisymm (by omega) (by omega), by omega⟩))))) (fun pcq64 => (Or.inr (Or.inr (Or.inr (Or.inr ⟨Int.le_antisymm (by omega) (by omega), Int.le_antisymm (by omega) (by omega), Int.le_antisymm (by omega) (by omega), Int.le_antisymm (by omega) (by omega), by omega, by omega⟩)))))))))))) _ _ (h_al_ok ⟨rfl, trivial⟩ hlw66) hRw66)
    · clear hz54
      refine h_aload_n (pc' := 33) rfl rfl rfl ?_
      refine h_iconst (pc' := 34) (x := (Int32.ofInt 3)) rfl rfl rfl ?_
      refine h_aload_n (pc' := 35) rfl rfl rfl ?_
      refine h_getR (pc' := 38) rfl rfl rfl rfl rfl ?_
      refine h_getI (pc' := 41) (v := σ1 64 4) rfl rfl rfl rfl rfl rfl (fun z67 hz67 => ?_)
      have tz67 := tf_64_4 hI1
      refine h_call (sp := false) (pc' := 44) (M := [(0, .ref 63), (1, .int (Int32.ofInt 3)), (2, .int z67)]) rfl rfl rfl rfl rfl rfl rfl rfl ?_
      refine h_aload_n (pc' := 1) rfl rfl rfl ?_
      refine h_getI (pc' := 4) (v := σ1 63 2) rfl rfl rfl rfl rfl rfl (fun z68 hz68 => ?_)
      refine h_zne (tg := 17) (pc' := 7) rfl rfl rfl hz68 (fun c69 => absurd (Int.le_antisymm (by omega) (by omega)) c69) (fun c69 => ?_)
      clear hz68
      refine h_aload_n (pc' := 8) rfl rfl rfl ?_
      refine h_iload_n (pc' := 9) rfl rfl rfl ?_
      refine h_put (pc' := 12) rfl rfl rfl rfl rfl rfl ci_3 rfl (h_fgt (E := fun s => s 64 2 = σ1 64 2 ∧ s 64 4 = σ1 64 4 ∧ s 64 3 = σ1 64 3 ∧ s 64 5 = σ1 64 5 ∧ s 63 2 = 3 ∧ s 63 3 = σ1 63 3 ∧ s 64 1 = σ1 64 1 ∧ s 66 8 = σ1 66 8 ∧ s 66 9 = σ1 66 9 ∧ s 66 10 = σ1 66 10 ∧ s 69 2 = σ1 69 2 ∧ s 72 2 = σ1 72 2 ∧ s 63 5 = σ1 63 5 ∧ s = h_up σ1 63 2 3) _ (if_63_2 hI1 (by omega)) (F1.up rfl) ⟨rfl, rfl, rfl, rfl, rfl, rfl, rfl, rfl, rfl, rfl, rfl, rfl, rfl, rfl⟩ (fun s70 Is70 Fs70 (es70 : s70 64 2 = σ1 64 2 ∧ s70 64 4 = σ1 64 4 ∧ s70 64 3 = σ1 64 3 ∧ s70 64 5 = σ1 64 5 ∧ s70 63 2 = 3 ∧ s70 63 3 = σ1 63 3 ∧ s70 64 1 = σ1 64 1 ∧ s70 66 8 = σ1 66 8 ∧ s70 66 9 = σ1 66 9 ∧ s70 66 10 = σ1 66 10 ∧ s70 69 2 = σ1 69 2 ∧ s70 72 2 = σ1 72 2 ∧ s70 63 5 = σ1 63 5 ∧ s70 = h_up σ1 63 2 3) => ?_))
      have us70 := es70.2.2.2.2.2.2.2.2.2.2.2.2.2
      refine h_aload_n (pc' := 13) rfl rfl rfl ?_
      refine h_iload_n (pc' := 14) rfl rfl rfl ?_
      refine h_put (pc' := 17) rfl rfl rfl rfl rfl rfl hz67 rfl (h_fgt (E := fun s => s 64 2 = σ1 64 2 ∧ s 64 4 = σ1 64 4 ∧ s 64 3 = σ1 64 3 ∧ s 64 5 = σ1 64 5 ∧ s 63 2 = 3 ∧ s 63 3 = (σ1 64 4) ∧ s 64 1 = σ1 64 1 ∧ s 66 8 = σ1 66 8 ∧ s 66 9 = σ1 66 9 ∧ s 66 10 = σ1 66 10 ∧ s 69 2 = σ1 69 2 ∧ s 72 2 = σ1 72 2 ∧ s 63 5 = σ1 63 5 ∧ s = h_up s70 63 3 (σ1 64 4)) _ (if_63_3 Is70 (h_rgv hz67)) (Fs70.up rfl) ⟨es70.1, es70.2.1, es70.2.2.1, es70.2.2.2.1, es70.2.2.2.2.1, rfl, es70.2.2.2.2.2.2.1, es70.2.2.2.2.2.2.2.1, es70.2.2.2.2.2.2.2.2.1, es70.2.2.2.2.2.2.2.2.2.1, es70.2.2.2.2.2.2.2.2.2.2.1, es70.2.2.2.2.2.2.2.2.2.2.2.1, es70.2.2.2.2.2.2.2.2.2.2.2.2.1, rfl⟩ (fun s71 Is71 Fs71 (es71 : s71 64 2 = σ1 64 2 ∧ s71 64 4 = σ1 64 4 ∧ s71 64 3 = σ1 64 3 ∧ s71 64 5 = σ1 64 5 ∧ s71 63 2 = 3 ∧ s71 63 3 = (σ1 64 4) ∧ s71 64 1 = σ1 64 1 ∧ s71 66 8 = σ1 66 8 ∧ s71 66 9 = σ1 66 9 ∧ s71 66 10 = σ1 66 10 ∧ s71 69 2 = σ1 69 2 ∧ s71 72 2 = σ1 72 2 ∧ s71 63 5 = σ1 63 5 ∧ s71 = h_up s70 63 3 (σ1 64 4)) => ?_))
      clear es70
      have us71 := es71.2.2.2.2.2.2.2.2.2.2.2.2.2
      refine h_vret rfl rfl (h_Kn ?_)
      refine h_aload_n (pc' := 45) rfl rfl rfl ?_
      refine h_iconst (pc' := 46) (x := (Int32.ofInt 5)) rfl rfl rfl ?_
      refine h_call (sp := false) (pc' := 49) (M := [(0, .ref 63), (1, .int (Int32.ofInt 5))]) rfl rfl rfl rfl rfl rfl rfl rfl ?_
      refine h_aload_n (pc' := 1) rfl rfl rfl ?_
      refine h_getI (pc' := 4) (v := 3) rfl rfl rfl rfl rfl es71.2.2.2.2.1 (fun z72 hz72 => ?_)
      refine h_zne (tg := 30) (pc' := 7) rfl rfl rfl hz72 (fun c73 => ?_) (fun c73 => absurd c73 (by omega))
      clear hz72
      refine h_aload_n (pc' := 31) rfl rfl rfl ?_
      refine h_getI (pc' := 34) (v := 3) rfl rfl rfl rfl rfl es71.2.2.2.2.1 (fun z74 hz74 => ?_)
      refine h_zne (tg := 60) (pc' := 37) rfl rfl rfl hz74 (fun c75 => ?_) (fun c75 => absurd c75 (by omega))
      clear hz74
      refine h_aload_n (pc' := 61) rfl rfl rfl ?_
      refine h_getR (pc' := 64) rfl rfl rfl rfl rfl ?_
      refine h_getI (pc' := 67) (v := σ1 64 5) rfl rfl rfl rfl rfl es71.2.2.2.1 (fun z76 hz76 => ?_)
      refine h_istore_n (pc' := 68) (M := [(2, .int z76), (0, .ref 63), (1, .int (Int32.ofInt 5))]) rfl rfl rfl rfl ?_
      refine h_aload_n (pc' := 69) rfl rfl rfl ?_
      refine h_call (sp := false) (pc' := 72) (M := [(0, .ref 63)]) rfl rfl rfl rfl rfl rfl rfl rfl ?_
      refine h_aload_n (pc' := 1) rfl rfl rfl ?_
      refine h_getI (pc' := 4) (v := 3) rfl rfl rfl rfl rfl es71.2.2.2.2.1 (fun z77 hz77 => ?_)
      refine h_zne (tg := 37) (pc' := 7) rfl rfl rfl hz77 (fun c78 => ?_) (fun c78 => absurd c78 (by omega))
      clear hz77
      refine h_vret rfl rfl (h_Kn ?_)
      refine h_iload_n (pc' := 73) rfl rfl rfl ?_
      refine h_iret rfl rfl (h_Kv ?_)
      refine h_istore_n (pc' := 50) (M := [(3, .int z76), (0, .ref 63), (1, .ref 72), (2, .int x2)]) rfl rfl rfl rfl ?_
      refine h_aload_n (pc' := 51) rfl rfl rfl ?_
      refine h_getI (pc' := 54) (v := 3) rfl rfl rfl rfl rfl es71.2.2.2.2.1 (fun z79 hz79 => ?_)
      refine h_zne (tg := 64) (pc' := 57) rfl rfl rfl hz79 (fun c80 => ?_) (fun c80 => absurd c80 (by omega))
      clear hz79
      refine d_toM (g_inj ns) hl2 hR2 (fun lvw81 memw81 hlw81 hRw81 => ?_)
      show h_T g_P (g_Y ns) 151 5 [(0, .ref 98), (1, .int (Int32.ofInt 19)), (2, .int y2), (3, .int y3)] [] σ2 _
      refine h_aload_n (pc' := 6) rfl rfl rfl ?_
      refine h_getI (pc' := 9) (v := σ2 98 13) rfl rfl rfl rfl rfl rfl (fun z82 hz82 => ?_)
      have tz82 := tf_98_13 hI2
      refine h_zne (tg := 33) (pc' := 12) rfl rfl rfl hz82 (fun c83 => absurd (Int.le_antisymm (by omega) (by omega)) c83) (fun c83 => ?_)
      clear hz82
      refine h_aload_n (pc' := 13) rfl rfl rfl ?_
      refine h_getI (pc' := 16) (v := σ2 98 17) rfl rfl rfl rfl rfl rfl (fun z84 hz84 => ?_)
      have tz84 := tf_98_17 hI2
      refine h_iconst (pc' := 17) (x := (Int32.ofInt 2)) rfl rfl rfl ?_
      refine h_cne (tg := 33) (pc' := 20) rfl rfl rfl hz84 ci_2 (fun c85 => absurd (Int.le_antisymm (by omega) (by omega)) c85) (fun c85 => ?_)
      clear hz84
      refine h_aload_n (pc' := 21) rfl rfl rfl ?_
      refine h_getI (pc' := 24) (v := σ2 98 18) rfl rfl rfl rfl rfl rfl (fun z86 hz86 => ?_)
      have tz86 := tf_98_18 hI2
      refine h_iload_n (pc' := 25) rfl rfl rfl ?_
      refine h_cne (tg := 33) (pc' := 28) rfl rfl rfl hz86 hy3 (fun c87 => absurd (Int.le_antisymm (by omega) (by omega)) c87) (fun c87 => ?_)
      clear hz86
      refine h_aload_n (pc' := 29) rfl rfl rfl ?_
      refine h_iconst (pc' := 30) (x := (Int32.ofInt 3)) rfl rfl rfl ?_
      refine h_call (sp := false) (pc' := 33) (M := [(0, .ref 98), (1, .int (Int32.ofInt 3))]) rfl rfl rfl rfl rfl rfl rfl rfl ?_
      refine h_aload_n (pc' := 1) rfl rfl rfl ?_
      refine h_getI (pc' := 4) (v := σ2 98 13) rfl rfl rfl rfl rfl rfl (fun z88 hz88 => ?_)
      refine h_zne (tg := 20) (pc' := 7) rfl rfl rfl hz88 (fun c89 => absurd (Int.le_antisymm (by omega) (by omega)) c89) (fun c89 => ?_)
      clear hz88
      refine h_aload_n (pc' := 8) rfl rfl rfl ?_
      refine h_iload_n (pc' := 9) rfl rfl rfl ?_
      refine h_put (pc' := 12) rfl rfl rfl rfl rfl rfl ci_3 rfl (h_fgt (E := fun s => s 98 15 = σ2 98 15 ∧ s 98 16 = σ2 98 16 ∧ s 98 17 = σ2 98 17 ∧ s 98 18 = σ2 98 18 ∧ s 98 13 = 3 ∧ s 98 14 = σ2 98 14 ∧ s 98 5 = σ2 98 5 ∧ s 98 6 = σ2 98 6 ∧ s 98 7 = σ2 98 7 ∧ s 98 8 = σ2 98 8 ∧ s 98 9 = σ2 98 9 ∧ s 101 18 = σ2 101 18 ∧ s 101 25 = σ2 101 25 ∧ s 101 43 = σ2 101 43 ∧ s = h_up σ2 98 13 3) _ (if_98_13 hI2 (by omega)) (F2.up rfl) ⟨rfl, rfl, rfl, rfl, rfl, rfl, rfl, rfl, rfl, rfl, rfl, rfl, rfl, rfl, rfl⟩ (fun s90 Is90 Fs90 (es90 : s90 98 15 = σ2 98 15 ∧ s90 98 16 = σ2 98 16 ∧ s90 98 17 = σ2 98 17 ∧ s90 98 18 = σ2 98 18 ∧ s90 98 13 = 3 ∧ s90 98 14 = σ2 98 14 ∧ s90 98 5 = σ2 98 5 ∧ s90 98 6 = σ2 98 6 ∧ s90 98 7 = σ2 98 7 ∧ s90 98 8 = σ2 98 8 ∧ s90 98 9 = σ2 98 9 ∧ s90 101 18 = σ2 101 18 ∧ s90 101 25 = σ2 101 25 ∧ s90 101 43 = σ2 101 43 ∧ s90 = h_up σ2 98 13 3) => ?_))
      have us90 := es90.2.2.2.2.2.2.2.2.2.2.2.2.2.2
      refine h_aload_n (pc' := 13) rfl rfl rfl ?_
      refine h_aload_n (pc' := 14) rfl rfl rfl ?_
      refine h_getI (pc' := 17) (v := σ2 98 16) rfl rfl rfl rfl rfl es90.2.1 (fun z91 hz91 => ?_)
      have tz91 := tf_98_16 hI2
      refine h_put (pc' := 20) rfl rfl rfl rfl rfl rfl hz91 rfl (h_fgt (E := fun s => s 98 15 = σ2 98 15 ∧ s 98 16 = σ2 98 16 ∧ s 98 17 = σ2 98 17 ∧ s 98 18 = σ2 98 18 ∧ s 98 13 = 3 ∧ s 98 14 = (σ2 98 16) ∧ s 98 5 = σ2 98 5 ∧ s 98 6 = σ2 98 6 ∧ s 98 7 = σ2 98 7 ∧ s 98 8 = σ2 98 8 ∧ s 98 9 = σ2 98 9 ∧ s 101 18 = σ2 101 18 ∧ s 101 25 = σ2 101 25 ∧ s 101 43 = σ2 101 43 ∧ s = h_up s90 98 14 (σ2 98 16)) _ (if_98_14 Is90 (h_rgv hz91)) (Fs90.up rfl) ⟨es90.1, es90.2.1, es90.2.2.1, es90.2.2.2.1, es90.2.2.2.2.1, rfl, es90.2.2.2.2.2.2.1, es90.2.2.2.2.2.2.2.1, es90.2.2.2.2.2.2.2.2.1, es90.2.2.2.2.2.2.2.2.2.1, es90.2.2.2.2.2.2.2.2.2.2.1, es90.2.2.2.2.2.2.2.2.2.2.2.1, es90.2.2.2.2.2.2.2.2.2.2.2.2.1, es90.2.2.2.2.2.2.2.2.2.2.2.2.2.1, rfl⟩ (fun s92 Is92 Fs92 (es92 : s92 98 15 = σ2 98 15 ∧ s92 98 16 = σ2 98 16 ∧ s92 98 17 = σ2 98 17 ∧ s92 98 18 = σ2 98 18 ∧ s92 98 13 = 3 ∧ s92 98 14 = (σ2 98 16) ∧ s92 98 5 = σ2 98 5 ∧ s92 98 6 = σ2 98 6 ∧ s92 98 7 = σ2 98 7 ∧ s92 98 8 = σ2 98 8 ∧ s92 98 9 = σ2 98 9 ∧ s92 101 18 = σ2 101 18 ∧ s92 101 25 = σ2 101 25 ∧ s92 101 43 = σ2 101 43 ∧ s92 = h_up s90 98 14 (σ2 98 16)) => ?_))
      clear es90
      have us92 := es92.2.2.2.2.2.2.2.2.2.2.2.2.2.2
      refine h_vret rfl rfl (h_Kn ?_)
      refine h_aload_n (pc' := 34) rfl rfl rfl ?_
      refine h_getR (pc' := 37) rfl rfl rfl rfl rfl ?_
      refine h_iload_n (pc' := 38) rfl rfl rfl ?_
      refine h_iconst (pc' := 39) (x := (Int32.ofInt 2)) rfl rfl rfl ?_
      refine h_iload_n (pc' := 40) rfl rfl rfl ?_
      refine h_imul (pc' := 41) rfl rfl ci_2 hy2 rfl (by omega) (by omega) (fun z93 hz93 => ?_)
      refine h_iadd (pc' := 42) rfl rfl ci_19 hz93 rfl (by omega) (by omega) (fun z94 hz94 => ?_)
      clear hz93
      refine h_iload_n (pc' := 43) rfl rfl rfl ?_
      refine h_iast (pc' := 44) rfl rfl rfl rfl hz94 (by omega) (by omega) hy3 (h_fgt (E := fun s => s 98 15 = σ2 98 15 ∧ s 98 16 = σ2 98 16 ∧ s 98 17 = σ2 98 17 ∧ s 98 18 = σ2 98 18 ∧ s 98 13 = 3 ∧ s 98 14 = (σ2 98 16) ∧ s 98 5 = σ2 98 5 ∧ s 98 6 = σ2 98 6 ∧ s 98 7 = σ2 98 7 ∧ s 98 8 = σ2 98 8 ∧ s 98 9 = σ2 98 9 ∧ s 101 18 = σ2 101 18 ∧ s 101 25 = σ2 101 25 ∧ s 101 43 = σ2 101 43 ∧ s = h_up s92 101 (19 + (2 * c2)) c3) _ (ip_101_4 Is92 (by omega) (by omega)) (Fs92.up rfl) ⟨es92.1, es92.2.1, es92.2.2.1, es92.2.2.2.1, es92.2.2.2.2.1, es92.2.2.2.2.2.1, es92.2.2.2.2.2.2.1, es92.2.2.2.2.2.2.2.1, es92.2.2.2.2.2.2.2.2.1, es92.2.2.2.2.2.2.2.2.2.1, es92.2.2.2.2.2.2.2.2.2.2.1, h_up_n2 (by omega) es92.2.2.2.2.2.2.2.2.2.2.2.1, h_up_n2 (by omega) es92.2.2.2.2.2.2.2.2.2.2.2.2.1, h_up_n2 (by omega) es92.2.2.2.2.2.2.2.2.2.2.2.2.2.1, rfl⟩ (fun s95 Is95 Fs95 (es95 : s95 98 15 = σ2 98 15 ∧ s95 98 16 = σ2 98 16 ∧ s95 98 17 = σ2 98 17 ∧ s95 98 18 = σ2 98 18 ∧ s95 98 13 = 3 ∧ s95 98 14 = (σ2 98 16) ∧ s95 98 5 = σ2 98 5 ∧ s95 98 6 = σ2 98 6 ∧ s95 98 7 = σ2 98 7 ∧ s95 98 8 = σ2 98 8 ∧ s95 98 9 = σ2 98 9 ∧ s95 101 18 = σ2 101 18 ∧ s95 101 25 = σ2 101 25 ∧ s95 101 43 = σ2 101 43 ∧ s95 = h_up s92 101 (19 + (2 * c2)) c3) => ?_))
      clear es92
      have us95 := es95.2.2.2.2.2.2.2.2.2.2.2.2.2.2
      clear hz94
      refine h_aload_n (pc' := 45) rfl rfl rfl ?_
      refine h_getR (pc' := 48) rfl rfl rfl rfl rfl ?_
      refine h_iload_n (pc' := 49) rfl rfl rfl ?_
      refine h_iconst (pc' := 50) (x := (Int32.ofInt 2)) rfl rfl rfl ?_
      refine h_iload_n (pc' := 51) rfl rfl rfl ?_
      refine h_imul (pc' := 52) rfl rfl ci_2 hy2 rfl (by omega) (by omega) (fun z96 hz96 => ?_)
      refine h_iadd (pc' := 53) rfl rfl ci_19 hz96 rfl (by omega) (by omega) (fun z97 hz97 => ?_)
      clear hz96
      refine h_iconst (pc' := 54) (x := (Int32.ofInt 1)) rfl rfl rfl ?_
      refine h_iadd (pc' := 55) rfl rfl hz97 ci_1 rfl (by omega) (by omega) (fun z98 hz98 => ?_)
      clear hz97
      refine h_aload_n (pc' := 56) rfl rfl rfl ?_
      refine d_call (g_inj ns) (pc' := 59) (m := 150) (M := [(0, .ref 98)]) (rest := [.int z98, .ref 101]) ⟨false, _, _, _, _, _, _, rfl, rfl, rfl, rfl, rfl, rfl, rfl⟩ (fun lv99 hlv99 => ?_)
      refine h_aload_n (pc' := 1) rfl rfl rfl ?_
      refine h_iconst (pc' := 2) (x := (Int32.ofInt 0)) rfl rfl rfl ?_
      refine h_iconst (pc' := 3) (x := (Int32.ofInt 5)) rfl rfl rfl ?_
      refine h_call (sp := false) (pc' := 6) (M := [(0, .ref 98), (1, .int (Int32.ofInt 0)), (2, .int (Int32.ofInt 5))]) rfl rfl rfl rfl rfl rfl rfl rfl ?_
      refine h_aload_n (pc' := 1) rfl rfl rfl ?_
      refine h_getI (pc' := 4) (v := 3) rfl rfl rfl rfl rfl es95.2.2.2.2.1 (fun z100 hz100 => ?_)
      refine h_zne (tg := 20) (pc' := 7) rfl rfl rfl hz100 (fun c101 => ?_) (fun c101 => absurd c101 (by omega))
      clear hz100
      refine h_aload_n (pc' := 21) rfl rfl rfl ?_
      refine h_getI (pc' := 24) (v := 3) rfl rfl rfl rfl rfl es95.2.2.2.2.1 (fun z102 hz102 => ?_)
      refine h_zne (tg := 47) (pc' := 27) rfl rfl rfl hz102 (fun c103 => ?_) (fun c103 => absurd c103 (by omega))
      clear hz102
      refine h_aload_n (pc' := 48) rfl rfl rfl ?_
      refine h_getI (pc' := 51) (v := 3) rfl rfl rfl rfl rfl es95.2.2.2.2.1 (fun z104 hz104 => ?_)
      refine h_zne (tg := 61) (pc' := 54) rfl rfl rfl hz104 (fun c105 => ?_) (fun c105 => absurd c105 (by omega))
      clear hz104
      refine h_iload_n (pc' := 62) rfl rfl rfl ?_
      refine h_istore_n (pc' := 63) (M := [(3, .int (Int32.ofInt 0)), (0, .ref 98), (1, .int (Int32.ofInt 0)), (2, .int (Int32.ofInt 5))]) rfl rfl rfl rfl ?_
      refine h_aload_n (pc' := 64) rfl rfl rfl ?_
      refine h_call (sp := false) (pc' := 67) (M := [(0, .ref 98)]) rfl rfl rfl rfl rfl rfl rfl rfl ?_
      refine h_aload_n (pc' := 1) rfl rfl rfl ?_
      refine h_getI (pc' := 4) (v := 3) rfl rfl rfl rfl rfl es95.2.2.2.2.1 (fun z106 hz106 => ?_)
      refine h_zle (tg := 8) (pc' := 7) rfl rfl rfl hz106 (fun c107 => absurd c107 (by omega)) (fun c107 => ?_)
      clear hz106
      refine h_vret rfl rfl (h_Kn ?_)
      refine h_iload_n (pc' := 68) rfl rfl rfl ?_
      refine h_iret rfl rfl (h_Kv ?_)
      refine h_istore_n (pc' := 7) (M := [(1, .int (Int32.ofInt 0)), (0, .ref 98)]) rfl rfl rfl rfl ?_
      have oH108 : s95 98 8 = σ2 98 8 := es95.2.2.2.2.2.2.2.2.2.1
      have uH108 := tf_98_8 Is95
      refine h_wk [(0, .ref 98), (1, .int (Int32.ofInt 0))] ⟨rfl, rfl, trivial⟩ (lm_hi _ Is95 (Int32.ofInt 0) _ ci_0 (by omega) (fun H108 hH108 => (h_fgt (E := fun s => s 98 15 = σ2 98 15 ∧ s 98 16 = σ2 98 16 ∧ s 98 17 = σ2 98 17 ∧ s 98 18 = σ2 98 18 ∧ s 98 13 = 3 ∧ s 98 14 = (σ2 98 16) ∧ s 98 5 = σ2 98 5 ∧ s 98 6 = σ2 98 6 ∧ s 98 7 = σ2 98 7 ∧ s 98 8 = H108 ∧ s 98 9 = σ2 98 9 ∧ s 101 18 = σ2 101 18 ∧ s 101 25 = σ2 101 25 ∧ s 101 43 = σ2 101 43 ∧ s = h_up s95 98 8 H108) _ (if_98_8 Is95 (by omega)) (Fs95.up rfl) ⟨es95.1, es95.2.1, es95.2.2.1, es95.2.2.2.1, es95.2.2.2.2.1, es95.2.2.2.2.2.1, es95.2.2.2.2.2.2.1, es95.2.2.2.2.2.2.2.1, es95.2.2.2.2.2.2.2.2.1, rfl, es95.2.2.2.2.2.2.2.2.2.2.1, es95.2.2.2.2.2.2.2.2.2.2.2.1, es95.2.2.2.2.2.2.2.2.2.2.2.2.1, es95.2.2.2.2.2.2.2.2.2.2.2.2.2.1, rfl⟩ (fun s109 Is109 Fs109 (es109 : s109 98 15 = σ2 98 15 ∧ s109 98 16 = σ2 98 16 ∧ s109 98 17 = σ2 98 17 ∧ s109 98 18 = σ2 98 18 ∧ s109 98 13 = 3 ∧ s109 98 14 = (σ2 98 16) ∧ s109 98 5 = σ2 98 5 ∧ s109 98 6 = σ2 98 6 ∧ s109 98 7 = σ2 98 7 ∧ s109 98 8 = H108 ∧ s109 98 9 = σ2 98 9 ∧ s109 101 18 = σ2 101 18 ∧ s109 101 25 = σ2 101 25 ∧ s109 101 43 = σ2 101 43 ∧ s109 = h_up s95 98 8 H108) => ?_))))
      clear es95
      have us109 := es109.2.2.2.2.2.2.2.2.2.2.2.2.2.2
      refine h_iload_n (pc' := 28) rfl rfl rfl ?_
      refine h_iret rfl rfl (d_ret hlv99 ?_)
      refine h_iast (pc' := 60) rfl rfl rfl rfl hz98 (by omega) (by omega) ci_0 (h_fgt (E := fun s => s 98 15 = σ2 98 15 ∧ s 98 16 = σ2 98 16 ∧ s 98 17 = σ2 98 17 ∧ s 98 18 = σ2 98 18 ∧ s 98 13 = 3 ∧ s 98 14 = (σ2 98 16) ∧ s 98 5 = σ2 98 5 ∧ s 98 6 = σ2 98 6 ∧ s 98 7 = σ2 98 7 ∧ s 98 8 = H108 ∧ s 98 9 = σ2 98 9 ∧ s 101 18 = σ2 101 18 ∧ s 101 25 = σ2 101 25 ∧ s 101 43 = σ2 101 43 ∧ s = h_up s109 101 ((19 + (2 * c2)) + 1) 0) _ (ip_101_4 Is109 (by omega) (by omega)) (Fs109.up rfl) ⟨es109.1, es109.2.1, es109.2.2.1, es109.2.2.2.1, es109.2.2.2.2.1, es109.2.2.2.2.2.1, es109.2.2.2.2.2.2.1, es109.2.2.2.2.2.2.2.1, es109.2.2.2.2.2.2.2.2.1, es109.2.2.2.2.2.2.2.2.2.1, es109.2.2.2.2.2.2.2.2.2.2.1, h_up_n2 (by omega) es109.2.2.2.2.2.2.2.2.2.2.2.1, h_up_n2 (by omega) es109.2.2.2.2.2.2.2.2.2.2.2.2.1, h_up_n2 (by omega) es109.2.2.2.2.2.2.2.2.2.2.2.2.2.1, rfl⟩ (fun s110 Is110 Fs110 (es110 : s110 98 15 = σ2 98 15 ∧ s110 98 16 = σ2 98 16 ∧ s110 98 17 = σ2 98 17 ∧ s110 98 18 = σ2 98 18 ∧ s110 98 13 = 3 ∧ s110 98 14 = (σ2 98 16) ∧ s110 98 5 = σ2 98 5 ∧ s110 98 6 = σ2 98 6 ∧ s110 98 7 = σ2 98 7 ∧ s110 98 8 = H108 ∧ s110 98 9 = σ2 98 9 ∧ s110 101 18 = σ2 101 18 ∧ s110 101 25 = σ2 101 25 ∧ s110 101 43 = σ2 101 43 ∧ s110 = h_up s109 101 ((19 + (2 * c2)) + 1) 0) => ?_))
      clear es109
      have us110 := es110.2.2.2.2.2.2.2.2.2.2.2.2.2.2
      clear hz98
      refine h_aload_n (pc' := 61) rfl rfl rfl ?_
      refine h_getR (pc' := 64) rfl rfl rfl rfl rfl ?_
      refine h_iload_n (pc' := 65) rfl rfl rfl ?_
      refine h_bipush (pc' := 67) (x := (Int32.ofInt 6)) rfl rfl cb_6 ?_
      refine h_iadd (pc' := 68) (c := 25) rfl rfl ci_19 ci_6 rfl (by omega) (by omega) (fun z111 hz111 => ?_)
      refine h_dup2 (pc' := 69) rfl rfl rfl ?_
      refine h_iald (pc' := 70) (v := σ2 101 25) rfl rfl rfl hz111 (by omega) (by omega) es110.2.2.2.2.2.2.2.2.2.2.2.2.1 (fun z112 hz112 => ?_)
      have tz112 := ty_101_5 hI2 25 (by omega)
      refine h_iconst (pc' := 71) (x := (Int32.ofInt 1)) rfl rfl rfl ?_
      refine h_iadd (pc' := 72) rfl rfl hz112 ci_1 rfl (by omega) (by omega) (fun z113 hz113 => ?_)
      clear hz112
      refine h_iast (pc' := 73) rfl rfl rfl rfl hz111 (by omega) (by omega) hz113 (h_fgt (E := fun s => s 98 15 = σ2 98 15 ∧ s 98 16 = σ2 98 16 ∧ s 98 17 = σ2 98 17 ∧ s 98 18 = σ2 98 18 ∧ s 98 13 = 3 ∧ s 98 14 = (σ2 98 16) ∧ s 98 5 = σ2 98 5 ∧ s 98 6 = σ2 98 6 ∧ s 98 7 = σ2 98 7 ∧ s 98 8 = H108 ∧ s 98 9 = σ2 98 9 ∧ s 101 18 = σ2 101 18 ∧ s 101 25 = ((σ2 101 25) + 1) ∧ s 101 43 = σ2 101 43 ∧ s = h_up s110 101 25 ((σ2 101 25) + 1)) _ (ip_101_5 Is110 (by omega) (by omega)) (Fs110.up rfl) ⟨es110.1, es110.2.1, es110.2.2.1, es110.2.2.2.1, es110.2.2.2.2.1, es110.2.2.2.2.2.1, es110.2.2.2.2.2.2.1, es110.2.2.2.2.2.2.2.1, es110.2.2.2.2.2.2.2.2.1, es110.2.2.2.2.2.2.2.2.2.1, es110.2.2.2.2.2.2.2.2.2.2.1, es110.2.2.2.2.2.2.2.2.2.2.2.1, rfl, es110.2.2.2.2.2.2.2.2.2.2.2.2.2.1, rfl⟩ (fun s114 Is114 Fs114 (es114 : s114 98 15 = σ2 98 15 ∧ s114 98 16 = σ2 98 16 ∧ s114 98 17 = σ2 98 17 ∧ s114 98 18 = σ2 98 18 ∧ s114 98 13 = 3 ∧ s114 98 14 = (σ2 98 16) ∧ s114 98 5 = σ2 98 5 ∧ s114 98 6 = σ2 98 6 ∧ s114 98 7 = σ2 98 7 ∧ s114 98 8 = H108 ∧ s114 98 9 = σ2 98 9 ∧ s114 101 18 = σ2 101 18 ∧ s114 101 25 = ((σ2 101 25) + 1) ∧ s114 101 43 = σ2 101 43 ∧ s114 = h_up s110 101 25 ((σ2 101 25) + 1)) => ?_))
      clear es110
      have us114 := es114.2.2.2.2.2.2.2.2.2.2.2.2.2.2
      clear hz111
      refine d_toL (g_inj ns) hlw81 hRw81 (fun lvw115 memw115 hlw115 hRw115 => ?_)
      show h_T g_P (g_Y ns) 60 64 [(3, .int z76), (0, .ref 63), (1, .ref 72), (2, .int x2)] [] s71 _
      exact h_wk [(0, .ref 63)] ⟨rfl, trivial⟩ (kx0 _ _ Is71 Is114 Fs71 Fs114 (Int.le_antisymm (by omega) (by omega)) (Int.le_antisymm (by omega) (by omega)) (Int.le_antisymm (by omega) (by omega)) (by omega) (by omega) (fun h => absurd h (by omega)) (Or.inl ⟨⟨by omega, by omega⟩, ⟨by omega, by omega⟩, Int.le_antisymm (by omega) (by omega), Int.le_antisymm (by omega) (by omega)⟩) _ _ (h_al_ok ⟨rfl, trivial⟩ hlw115) hRw115)
  · show h_T g_P (g_Y ns) 60 14 [(0, .ref 63), (1, .ref 72), (2, .int x2)] [] σ1 _
    refine h_aload_n (pc' := 15) rfl rfl rfl ?_
    refine h_call (sp := false) (pc' := 18) (M := [(0, .ref 63)]) rfl rfl rfl rfl rfl rfl rfl rfl ?_
    refine h_aload_n (pc' := 1) rfl rfl rfl ?_
    refine h_getI (pc' := 4) (v := σ1 63 2) rfl rfl rfl rfl rfl rfl (fun z116 hz116 => ?_)
    have tz116 := tf_63_2 hI1
    refine h_zne (tg := 22) (pc' := 7) rfl rfl rfl hz116 (fun c117 => absurd (Int.le_antisymm (by omega) (by omega)) c117) (fun c117 => ?_)
    clear hz116
    refine h_aload_n (pc' := 8) rfl rfl rfl ?_
    refine h_getR (pc' := 11) rfl rfl rfl rfl rfl ?_
    refine h_getI (pc' := 14) (v := σ1 64 3) rfl rfl rfl rfl rfl rfl (fun z118 hz118 => ?_)
    have tz118 := tf_64_3 hI1
    refine h_iconst (pc' := 15) (x := (Int32.ofInt 2)) rfl rfl rfl ?_
    refine h_cne (tg := 22) (pc' := 18) rfl rfl rfl hz118 ci_2 (fun c119 => ?_) (fun c119 => absurd c119 (by omega))
    clear hz118
    refine h_iconst (pc' := 23) (x := (Int32.ofInt 0)) rfl rfl rfl ?_
    refine h_zret rfl rfl ci_0 (by omega) (h_Kv ?_)
    refine h_zeq (tg := 44) (pc' := 21) rfl rfl rfl ci_0 (fun c120 => ?_) (fun c120 => absurd (Int.le_antisymm (by omega) (by omega)) c120)
    refine d_toM (g_inj ns) hl2 hR2 (fun lvw121 memw121 hlw121 hRw121 => ?_)
    show h_T g_P (g_Y ns) 151 5 [(0, .ref 98), (1, .int (Int32.ofInt 19)), (2, .int y2), (3, .int y3)] [] σ2 _
    refine h_aload_n (pc' := 6) rfl rfl rfl ?_
    refine h_getI (pc' := 9) (v := σ2 98 13) rfl rfl rfl rfl rfl rfl (fun z122 hz122 => ?_)
    have tz122 := tf_98_13 hI2
    refine h_zne (tg := 33) (pc' := 12) rfl rfl rfl hz122 (fun c123 => absurd (Int.le_antisymm (by omega) (by omega)) c123) (fun c123 => ?_)
    clear hz122
    refine h_aload_n (pc' := 13) rfl rfl rfl ?_
    refine h_getI (pc' := 16) (v := σ2 98 17) rfl rfl rfl rfl rfl rfl (fun z124 hz124 => ?_)
    have tz124 := tf_98_17 hI2
    refine h_iconst (pc' := 17) (x := (Int32.ofInt 2)) rfl rfl rfl ?_
    refine h_cne (tg := 33) (pc' := 20) rfl rfl rfl hz124 ci_2 (fun c125 => ?_) (fun c125 => absurd c125 (by omega))
    clear hz124
    refine d_toL (g_inj ns) hlw121 hRw121 (fun lvw126 memw126 hlw126 hRw126 => ?_)
    show h_T g_P (g_Y ns) 60 44 [(0, .ref 63), (1, .ref 72), (2, .int x2)] [] σ1 _
    refine h_wk [(0, .ref 63), (1, .ref 72), (2, .int x2)] ⟨rfl, rfl, rfl, trivial⟩ (ls_feu_d hI1 hI2 (hTL.fr (F1.mono rfl) (F2.mono rfl)) x2 _ hx2 y2 _ hy2 y3 _ hy3 H0 (Int.le_antisymm (by omega) (by omega)) (Int.le_antisymm (by omega) (by omega)) (Int.le_antisymm (by omega) (by omega)) (Int.le_antisymm (by omega) (by omega)) (Int.le_antisymm (by omega) (by omega)) (Int.le_antisymm (by omega) (by omega)) (Int.le_antisymm (by omega) (by omega)) (Int.le_antisymm (by omega) (by omega)) (Int.le_antisymm (by omega) (by omega)) (by omega) (pr10) (Int.le_antisymm (by omega) (by omega)) (⟨by omega, by omega⟩) (Int.le_antisymm (by omega) (by omega)) (by omega) (by omega) (by omega) (Or.inr (Or.inr (Or.inr ⟨Int.le_antisymm (by omega) (by omega), Int.le_antisymm (by omega) (by omega), ⟨by omega, by omega⟩, Int.le_antisymm (by omega) (by omega), Int.le_antisymm (by omega) (by omega), ⟨by omega, by omega⟩, by omega⟩))) (fun sq127 tq127 Isq127 Itq127 Gsq127 Gtq127   yq127_0 yq127_1 yq127_2 yq127_3 yq127_4 yq127_5 pcq127 lvq127 memq127 hlq127 hRq127 => ?_) _ _ (h_al_ok ⟨rfl, rfl, rfl, rfl, trivial⟩ hlw126) hRw126)
    · have Fsq127 := (Gsq127.mono (B := k_pl) rfl).tr F1
      have Ftq127 := (Gtq127.mono (B := k_pm) rfl).tr F2
      have Isq127 := Isq127
      have Itq127 := Itq127
      have Gsq127 := Gsq127
      have Gtq127 := Gtq127
      have esq127_6 : sq127 64 1 = σ1 64 1 := (Gsq127 64 1 rfl).trans rfl
      show h_T g_P (g_Y ns) 60 64 [(0, .ref 63)] [] sq127 _
      refine d_toM (g_inj ns) hlq127 hRq127 (fun lvw128 memw128 hlw128 hRw128 => ?_)
      show h_T g_P (g_Y ns) 151 73 [(0, .ref 98)] [] tq127 _
      refine d_toL (g_inj ns) hlw128 hRw128 (fun lvw129 memw129 hlw129 hRw129 => ?_)
      show h_T g_P (g_Y ns) 60 64 [(0, .ref 63)] [] sq127 _
      exact h_wk [(0, .ref 63)] ⟨rfl, trivial⟩ (kx0 _ _ Isq127 Itq127 Fsq127 Ftq127 (Int.le_antisymm (by omega) (by omega)) (Int.le_antisymm (by omega) (by omega)) (Int.le_antisymm (by omega) (by omega)) (by omega) (by omega) (yq127_5) (pcq127.elim (fun pcq127 => (Or.inl ⟨⟨by omega, by omega⟩, ⟨by omega, by omega⟩, Int.le_antisymm (by omega) (by omega), Int.le_antisymm (by omega) (by omega)⟩)) (fun pcq127 => (pcq127.elim (fun pcq127 => (Or.inr (Or.inl ⟨Int.le_antisymm (by omega) (by omega), Int.le_antisymm (by omega) (by omega), Int.le_antisymm (by omega) (by omega), Int.le_antisymm (by omega) (by omega), Int.le_antisymm (by omega) (by omega)⟩))) (fun pcq127 => (pcq127.elim (fun pcq127 => (Or.inr (Or.inr (Or.inl ⟨Int.le_antisymm (by omega) (by omega), Int.le_antisymm (by omega) (by omega), Int.le_antisymm (by omega) (by omega), Int.le_antisymm (by omega) (by omega), by omega⟩)))) (fun pcq127 => (pcq127.elim (fun pcq127 => (Or.inr (Or.inr (Or.inr (Or.inl ⟨Int.le_antisymm (by omega) (by omega), Int.le_antisymm (by omega) (by omega), Int.le_antisymm (by omega) (by omega), Int.le_antisymm (by omega) (by omega), ⟨by omega, by omega⟩, ⟨by omega, by omega⟩, Int.le_antisymm (by omega) (by omega), by omega⟩))))) (fun pcq127 => (Or.inr (Or.inr (Or.inr (Or.inr ⟨Int.le_antisymm (by omega) (by omega), Int.le_antisymm (by omega) (by omega), Int.le_antisymm (by omega) (by omega), Int.le_antisymm (by omega) (by omega), by omega, by omega⟩)))))))))))) _ _ (h_al_ok ⟨rfl, trivial⟩ hlw129) hRw129)
