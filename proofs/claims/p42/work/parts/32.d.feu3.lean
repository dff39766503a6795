set_option maxHeartbeats 100000000 in
theorem ls_feu {ns : Nat} {σ1 σ2 : h_S} (hI1 : h_I σ1) (hI2 : h_I σ2) (hTL : d_tape σ1 σ2) (x1 : Int32) (a1 : Int) (hx1 : x1.toInt = a1) (y1 : Int32) (c1 : Int) (hy1 : y1.toInt = c1) (pr0 : σ1 64 2 = σ2 98 15) (pr1 : σ1 64 4 = σ2 98 16) (pr2 : σ1 63 2 = σ2 98 13) (pr3 : σ1 66 8 = σ2 98 5) (pr4 : σ1 66 9 = σ2 98 6) (pr5 : σ1 66 10 = σ2 101 43) (pr6 : σ1 69 2 = σ2 101 18) (pr7 : σ1 72 2 = σ2 101 25) (pr8 : σ1 63 5 = σ2 98 7) (pr9 : σ1 64 2 ≤ σ1 64 1) (pr10 : d_RD σ1 σ2) (pr11 : a1 = c1) (pr12 : a1 = 5) (pc0 : ((σ1 63 2 = 0) ∧ (σ2 98 13 = 0))) {cs1 cs2 : List d_Fr} {Q : d_Q} (kx0 : ∀ (s t : h_S), h_I s → h_I t → h_F (k_in k_pl) s σ1 → h_F (k_in k_pm) t σ2 → (s 64 2 = t 98 15) → (s 64 4 = t 98 16) → (s 63 2 = t 98 13) → (s 64 2 ≤ s 64 1) → (σ1 64 2 ≤ s 64 2) → (d_ok s t) → (((1 ≤ s 63 2 ∧ s 63 2 ≤ 6) ∧ (1 ≤ t 98 13 ∧ t 98 13 ≤ 6) ∧ (s 63 2 = t 98 13) ∧ (s 63 3 = t 98 14)) ∨ ((s 63 2 = 0) ∧ (s 64 3 = 3) ∧ (t 98 13 = 0) ∧ (t 98 17 = 3) ∧ (s 64 4 < s 64 2) ∧ (σ1 64 2 < s 64 2))) → ∀ lv2 mem2, h_loc [(0, .ref 98)] lv2 → h_R (g_Y ns) t mem2 → h_T g_P (g_Y ns) 56 180 [(0, .ref 63)] [] s (d_cs g_P (g_Y ns) cs1 (d_L g_P (g_Y ns) (154, 165, lv2, []) cs2 mem2 Q))) (kx1 : ∀ (s t : h_S), h_I s → h_I t → h_F (k_in k_pl) s σ1 → h_F (k_in k_pm) t σ2 → (s 64 2 = t 98 15) → (s 64 4 = t 98 16) → (s 63 2 = t 98 13) → (s 64 2 ≤ s 64 1) → (σ1 64 2 ≤ s 64 2) → (((1 ≤ s 63 2 ∧ s 63 2 ≤ 6) ∧ (1 ≤ t 98 13 ∧ t 98 13 ≤ 6) ∧ (s 63 2 = t 98 13) ∧ (s 63 3 = t 98 14))) → ∀ lv2 mem2, h_loc [(0, .ref 98)] lv2 → h_R (g_Y ns) t mem2 → h_T g_P (g_Y ns) 56 180 [(0, .ref 63)] [] s (d_cs g_P (g_Y ns) cs1 (d_L g_P (g_Y ns) (154, 139, lv2, []) cs2 mem2 Q))) : ∀ lv2 mem2, h_loc [(0, .ref 98), (1, .int y1)] lv2 → h_R (g_Y ns) σ2 mem2 → h_T g_P (g_Y ns) 56 102 [(0, .ref 63), (1, .int x1)] [] σ1 (d_cs g_P (g_Y ns) cs1 (d_L g_P (g_Y ns) (154, 23, lv2, []) cs2 mem2 Q)) := by
  intro lv2 mem2 hl2 hR2
  have hT := hTL.1
  have hL := hTL.2
  have F1 : h_F (k_in k_pl) σ1 σ1 := h_F.rf
  have F2 : h_F (k_in k_pm) σ2 σ2 := h_F.rf
  have ge0 := tf_64_1 hI1
  have ge1 := tf_66_8 hI1
  have ge2 := tf_66_9 hI1
  have ge3 := tf_66_10 hI1
  have ge4 := tf_69_2 hI1
  have ge5 := tf_72_2 hI1
  have ge6 := tf_63_5 hI1
  have ge7 := tf_63_2 hI1
  have ge8 := tf_98_8 hI2
  have ge9 := tf_98_9 hI2
  have ge10 := tf_98_13 hI2
  rcases pc0 with pc0
  · show h_T g_P (g_Y ns) 56 102 [(0, .ref 63), (1, .int x1)] [] σ1 _
    refine h_aload_n (pc' := 103) rfl rfl rfl ?_
    refine h_aload_n (pc' := 104) rfl rfl rfl ?_
    refine h_getR (pc' := 107) rfl rfl rfl rfl rfl ?_
    refine h_getR (pc' := 110) rfl rfl rfl rfl rfl ?_
    refine d_call (g_inj ns) (pc' := 113) (m := 60) (M := [(0, .ref 63), (1, .ref 72)]) (rest := []) ⟨false, _, _, _, _, _, _, rfl, rfl, rfl, rfl, rfl, rfl, rfl⟩ (fun lv21 hlv21 => ?_)
    refine h_aload_n (pc' := 1) rfl rfl rfl ?_
    refine h_aload_n (pc' := 2) rfl rfl rfl ?_
    refine h_call (sp := false) (pc' := 5) (M := [(0, .ref 72)]) rfl rfl rfl rfl rfl rfl rfl rfl ?_
    refine h_aload_n (pc' := 1) rfl rfl rfl ?_
    refine h_getI (pc' := 4) (v := σ1 72 2) rfl rfl rfl rfl rfl rfl (fun z22 hz22 => ?_)
    have tz22 := tf_72_2 hI1
    refine h_iconst (pc' := 5) (x := (Int32.ofInt 3)) rfl rfl rfl ?_
    refine h_clt (tg := 12) (pc' := 8) rfl rfl rfl hz22 ci_3 (fun c23 => ?_) (fun c23 => ?_)
    · clear hz22
      refine h_iconst (pc' := 13) (x := (Int32.ofInt 0)) rfl rfl rfl ?_
      refine h_zret rfl rfl ci_0 (by omega) (h_Kv ?_)
      refine d_call (g_inj ns) (pc' := 8) (m := 57) (M := [(0, .ref 63), (1, .int (Int32.ofInt 0))]) (rest := []) ⟨false, _, _, _, _, _, _, rfl, rfl, rfl, rfl, rfl, rfl, rfl⟩ (fun lv24 hlv24 => ?_)
      refine h_iload_n (pc' := 1) rfl rfl rfl ?_
      refine h_zeq (tg := 16) (pc' := 4) rfl rfl rfl ci_0 (fun c25 => ?_) (fun c25 => absurd (Int.le_antisymm (by omega) (by omega)) c25)
      refine h_aload_n (pc' := 17) rfl rfl rfl ?_
      refine d_toM (g_inj ns) hl2 hR2 (fun lvw26 memw26 hlw26 hRw26 => ?_)
      show h_T g_P (g_Y ns) 154 23 [(0, .ref 98), (1, .int y1)] [] σ2 _
      refine h_iload_n (pc' := 24) rfl rfl rfl ?_
      refine h_iconst (pc' := 25) (x := (Int32.ofInt 3)) rfl rfl rfl ?_
      refine h_cgt (tg := 37) (pc' := 28) rfl rfl rfl hy1 ci_3 (fun c27 => ?_) (fun c27 => absurd c27 (by omega))
      refine h_iload_n (pc' := 38) rfl rfl rfl ?_
      refine h_iconst (pc' := 39) (x := (Int32.ofInt 4)) rfl rfl rfl ?_
      refine h_cne (tg := 53) (pc' := 42) rfl rfl rfl hy1 ci_4 (fun c28 => ?_) (fun c28 => absurd c28 (by omega))
      refine h_iload_n (pc' := 54) rfl rfl rfl ?_
      refine h_iconst (pc' := 55) (x := (Int32.ofInt 5)) rfl rfl rfl ?_
      refine h_cne (tg := 69) (pc' := 58) rfl rfl rfl hy1 ci_5 (fun c29 => absurd (Int.le_antisymm (by omega) (by omega)) c29) (fun c29 => ?_)
      refine h_aload_n (pc' := 59) rfl rfl rfl ?_
      refine h_getR (pc' := 62) rfl rfl rfl rfl rfl ?_
      refine h_bipush (pc' := 64) (x := (Int32.ofInt 25)) rfl rfl cb_25 ?_
      refine h_iald (pc' := 65) (v := σ2 101 25) rfl rfl rfl ci_25 (by omega) (by omega) rfl (fun z30 hz30 => ?_)
      have tz30 := ty_101_5 hI2 25 (by omega)
      refine h_iconst (pc' := 66) (x := (Int32.ofInt 3)) rfl rfl rfl ?_
      refine h_ceq (tg := 83) (pc' := 69) rfl rfl rfl hz30 ci_3 (fun c31 => absurd c31 (by omega)) (fun c31 => ?_)
      clear hz30
      refine h_iload_n (pc' := 70) rfl rfl rfl ?_
      refine h_bipush (pc' := 72) (x := (Int32.ofInt 6)) rfl rfl cb_6 ?_
      refine h_cne (tg := 88) (pc' := 75) rfl rfl rfl hy1 ci_6 (fun c32 => ?_) (fun c32 => absurd c32 (by omega))
      refine h_iload_n (pc' := 89) rfl rfl rfl ?_
      refine h_bipush (pc' := 91) (x := (Int32.ofInt 7)) rfl rfl cb_7 ?_
      refine h_cne (tg := 106) (pc' := 94) rfl rfl rfl hy1 ci_7 (fun c33 => ?_) (fun c33 => absurd c33 (by omega))
      have uH34 := tf_98_7 hI2
      refine h_wk [(0, .ref 98), (1, .int y1)] ⟨rfl, rfl, trivial⟩ (lm_pt _ hI2 y1 _ hy1 (by omega) (fun H34 hH34 => (h_fgt (E := fun s => s 98 15 = σ2 98 15 ∧ s 98 16 = σ2 98 16 ∧ s 98 17 = σ2 98 17 ∧ s 98 18 = σ2 98 18 ∧ s 98 13 = σ2 98 13 ∧ s 98 14 = σ2 98 14 ∧ s 98 5 = σ2 98 5 ∧ s 98 6 = σ2 98 6 ∧ s 98 7 = H34 ∧ s 98 8 = σ2 98 8 ∧ s 98 9 = σ2 98 9 ∧ s 101 18 = σ2 101 18 ∧ s 101 25 = σ2 101 25 ∧ s 101 43 = σ2 101 43 ∧ s = h_up σ2 98 7 H34) _ (if_98_7 hI2 (by omega)) (F2.up rfl) ⟨rfl, rfl, rfl, rfl, rfl, rfl, rfl, rfl, rfl, rfl, rfl, rfl, rfl, rfl, rfl⟩ (fun s35 Is35 Fs35 (es35 : s35 98 15 = σ2 98 15 ∧ s35 98 16 = σ2 98 16 ∧ s35 98 17 = σ2 98 17 ∧ s35 98 18 = σ2 98 18 ∧ s35 98 13 = σ2 98 13 ∧ s35 98 14 = σ2 98 14 ∧ s35 98 5 = σ2 98 5 ∧ s35 98 6 = σ2 98 6 ∧ s35 98 7 = H34 ∧ s35 98 8 = σ2 98 8 ∧ s35 98 9 = σ2 98 9 ∧ s35 101 18 = σ2 101 18 ∧ s35 101 25 = σ2 101 25 ∧ s35 101 43 = σ2 101 43 ∧ s35 = h_up σ2 98 7 H34) => ?_))))
      have us35 := es35.2.2.2.2.2.2.2.2.2.2.2.2.2.2
      refine h_aload_n (pc' := 129) rfl rfl rfl ?_
      refine d_pcall (g_inj ns) (m1 := 54) (pc1' := 20) (M1 := [(0, .ref 63)]) (rest1 := []) (m2 := 148) (pc2' := 132) (M2 := [(0, .ref 98)]) (rest2 := []) ⟨false, _, _, _, _, _, _, rfl, rfl, rfl, rfl, rfl, rfl, rfl⟩ ⟨false, _, _, _, _, _, _, rfl, rfl, rfl, rfl, rfl, rfl, rfl⟩ hRw26 ?_
      refine pp_step hI1 Is35 (hTL.fr (F1.mono rfl) (Fs35.mono rfl)) (Int.le_antisymm (by omega) (by omega)) (Int.le_antisymm (by omega) (by omega)) (Int.le_antisymm (by omega) (by omega)) (by omega) (Or.inr ⟨Int.le_antisymm (by omega) (by omega), Int.le_antisymm (by omega) (by omega)⟩) (fun sq36 tq36 Isq36 Itq36 Gsq36 Gtq36 yq36_0 yq36_1 yq36_2 yq36_3 yq36_4 pcq36 memq36 hRq36 => ?_)
      have Fsq36 := (Gsq36.mono (B := k_pl) rfl).tr F1
      have Ftq36 := (Gtq36.mono (B := k_pm) rfl).tr Fs35
      have esq36_6 : sq36 64 1 = σ1 64 1 := (Gsq36 64 1 rfl).trans rfl
      have esq36_7 : sq36 66 8 = σ1 66 8 := (Gsq36 66 8 rfl).trans rfl
      have esq36_8 : sq36 66 9 = σ1 66 9 := (Gsq36 66 9 rfl).trans rfl
      have esq36_9 : sq36 66 10 = σ1 66 10 := (Gsq36 66 10 rfl).trans rfl
      have esq36_10 : sq36 69 2 = σ1 69 2 := (Gsq36 69 2 rfl).trans rfl
      have esq36_11 : sq36 72 2 = σ1 72 2 := (Gsq36 72 2 rfl).trans rfl
      have esq36_12 : sq36 63 5 = σ1 63 5 := (Gsq36 63 5 rfl).trans rfl
      have etq36_6 : tq36 98 5 = σ2 98 5 := (Gtq36 98 5 rfl).trans es35.2.2.2.2.2.2.1
      have etq36_7 : tq36 98 6 = σ2 98 6 := (Gtq36 98 6 rfl).trans es35.2.2.2.2.2.2.2.1
      have etq36_8 : tq36 98 7 = H34 := (Gtq36 98 7 rfl).trans es35.2.2.2.2.2.2.2.2.1
      have etq36_9 : tq36 98 8 = σ2 98 8 := (Gtq36 98 8 rfl).trans es35.2.2.2.2.2.2.2.2.2.1
      have etq36_10 : tq36 98 9 = σ2 98 9 := (Gtq36 98 9 rfl).trans es35.2.2.2.2.2.2.2.2.2.2.1
      have etq36_11 : tq36 101 18 = σ2 101 18 := (Gtq36 101 18 rfl).trans es35.2.2.2.2.2.2.2.2.2.2.2.1
      have etq36_12 : tq36 101 25 = σ2 101 25 := (Gtq36 101 25 rfl).trans es35.2.2.2.2.2.2.2.2.2.2.2.2.1
      have etq36_13 : tq36 101 43 = σ2 101 43 := (Gtq36 101 43 rfl).trans es35.2.2.2.2.2.2.2.2.2.2.2.2.2.1
      show h_T g_P (g_Y ns) 154 132 [(0, .ref 98), (1, .int y1)] [] tq36 _
      refine h_aload_n (pc' := 133) rfl rfl rfl ?_
      refine h_getI (pc' := 136) (v := tq36 98 13) rfl rfl rfl rfl rfl rfl (fun z37 hz37 => ?_)
      have tz37 := tf_98_13 Itq36
      refine h_zle (tg := 140) (pc' := 139) rfl rfl rfl hz37 (fun c38 => ?_) (fun c38 => ?_)
      · clear hz37
        refine h_aload_n (pc' := 141) rfl rfl rfl ?_
        refine h_iload_n (pc' := 142) rfl rfl rfl ?_
        refine d_call (g_inj ns) (pc' := 145) (m := 153) (M := [(0, .ref 98), (1, .int y1)]) (rest := []) ⟨false, _, _, _, _, _, _, rfl, rfl, rfl, rfl, rfl, rfl, rfl⟩ (fun lv39 hlv39 => ?_)
        refine h_iload_n (pc' := 1) rfl rfl rfl ?_
        refine h_iconst (pc' := 2) (x := (Int32.ofInt 3)) rfl rfl rfl ?_
        refine h_cgt (tg := 61) (pc' := 5) rfl rfl rfl hy1 ci_3 (fun c40 => ?_) (fun c40 => absurd c40 (by omega))
        refine h_iload_n (pc' := 62) rfl rfl rfl ?_
        refine h_iconst (pc' := 63) (x := (Int32.ofInt 4)) rfl rfl rfl ?_
        refine h_cne (tg := 82) (pc' := 66) rfl rfl rfl hy1 ci_4 (fun c41 => ?_) (fun c41 => absurd c41 (by omega))
        refine h_iload_n (pc' := 83) rfl rfl rfl ?_
        refine h_iconst (pc' := 84) (x := (Int32.ofInt 5)) rfl rfl rfl ?_
        refine h_cne (tg := 103) (pc' := 87) rfl rfl rfl hy1 ci_5 (fun c42 => absurd (Int.le_antisymm (by omega) (by omega)) c42) (fun c42 => ?_)
        refine h_aload_n (pc' := 88) rfl rfl rfl ?_
        refine h_bipush (pc' := 90) (x := (Int32.ofInt 19)) rfl rfl cb_19 ?_
        refine h_aload_n (pc' := 91) rfl rfl rfl ?_
        refine h_getR (pc' := 94) rfl rfl rfl rfl rfl ?_
        refine h_bipush (pc' := 96) (x := (Int32.ofInt 25)) rfl rfl cb_25 ?_
        refine h_iald (pc' := 97) (v := σ2 101 25) rfl rfl rfl ci_25 (by omega) (by omega) etq36_12 (fun z43 hz43 => ?_)
        refine d_call (g_inj ns) (pc' := 100) (m := 151) (M := [(0, .ref 98), (1, .int (Int32.ofInt 19)), (2, .int z43)]) (rest := []) ⟨false, _, _, _, _, _, _, rfl, rfl, rfl, rfl, rfl, rfl, rfl⟩ (fun lv44 hlv44 => ?_)
        refine d_toL (g_inj ns) hlw26 hRq36 (fun lvw45 memw45 hlw45 hRw45 => ?_)
        show h_T g_P (g_Y ns) 57 20 [(0, .ref 63), (1, .int (Int32.ofInt 0))] [] sq36 _
        refine h_vret rfl rfl (d_retn hlv24 ?_)
        refine h_wk [(0, .ref 63), (1, .ref 72)] ⟨rfl, rfl, trivial⟩ (ls_feu_b Isq36 Itq36 (hTL.fr (Fsq36.mono rfl) (Ftq36.mono rfl))  z43 _ hz43 (Int.le_antisymm (by omega) (by omega)) (Int.le_antisymm (by omega) (by omega)) (Int.le_antisymm (by omega) (by omega)) (Int.le_antisymm (by omega) (by omega)) (Int.le_antisymm (by omega) (by omega)) (Int.le_antisymm (by omega) (by omega)) (Int.le_antisymm (by omega) (by omega)) (Int.le_antisymm (by omega) (by omega)) (Int.le_antisymm (by omega) (by omega)) (by omega) (d_mk ((Gsq36 66 8 rfl)) ((Gsq36 66 9 rfl)) ((Gsq36 66 10 rfl)) ((Gsq36 69 2 rfl)) ((Gsq36 72 2 rfl)) ((Gsq36 63 5 rfl)) (fun j => (Gsq36 67 j rfl)) (fun j => (Gsq36 68 j rfl)) (fun j => (Gsq36 70 j rfl)) (fun j => (Gsq36 71 j rfl)) (fun j => (Gsq36 73 j rfl)) (fun j => (Gsq36 74 j rfl)) (fun j => (Gsq36 75 j rfl)) (fun j => (Gsq36 76 j rfl)) (fun j => (Gsq36 77 j rfl)) (fun j => (Gsq36 78 j rfl)) ((Gtq36 98 5 rfl).trans (h_upd us35 (by decide))) ((Gtq36 98 6 rfl).trans (h_upd us35 (by decide))) (by omega) ((Gtq36 98 8 rfl).trans (h_upd us35 (by decide))) ((Gtq36 98 9 rfl).trans (h_upd us35 (by decide))) (fun j => (Gtq36 101 j rfl).trans (h_upo us35 rfl j)) (pr10)) (Int.le_antisymm (by omega) (by omega)) (pcq36.elim (fun pcq36 => (by exfalso; omega)) (fun pcq36 => (pcq36.elim (fun pcq36 => (Or.inl ⟨Int.le_antisymm (by omega) (by omega), Int.le_antisymm (by omega) (by omega), ⟨by omega, by omega⟩, Int.le_antisymm (by omega) (by omega), Int.le_antisymm (by omega) (by omega), ⟨by omega, by omega⟩, Int.le_antisymm (by omega) (by omega)⟩)) (fun pcq36 => (pcq36.elim (fun pcq36 => (Or.inr (Or.inl ⟨Int.le_antisymm (by omega) (by omega), Int.le_antisymm (by omega) (by omega), ⟨by omega, by omega⟩, Int.le_antisymm (by omega) (by omega), Int.le_antisymm (by omega) (by omega), ⟨by omega, by omega⟩, by omega⟩))) (fun pcq36 => (pcq36.elim (fun pcq36 => (Or.inr (Or.inr (Or.inl ⟨Int.le_antisymm (by omega) (by omega), Int.le_antisymm (by omega) (by omega), ⟨by omega, by omega⟩, Int.le_antisymm (by omega) (by omega), Int.le_antisymm (by omega) (by omega), ⟨by omega, by omega⟩, ⟨by omega, by omega⟩, ⟨by omega, by omega⟩, Int.le_antisymm (by omega) (by omega), by omega⟩)))) (fun pcq36 => (Or.inr (Or.inr (Or.inr ⟨Int.le_antisymm (by omega) (by omega), Int.le_antisymm (by omega) (by omega), ⟨by omega, by omega⟩, Int.le_antisymm (by omega) (by omega), Int.le_antisymm (by omega) (by omega), ⟨by omega, by omega⟩, by omega⟩))))))))))) (fun sq46 tq46 Isq46 Itq46 Gsq46 Gtq46   yq46_0 yq46_1 yq46_2 yq46_3 yq46_4 yq46_5 pcq46 lvq46 memq46 hlq46 hRq46 => ?_) _ _ (h_al_ok ⟨rfl, rfl, rfl, trivial⟩ hlw45) hRw45)
        · have Fsq46 := (Gsq46.mono (B := k_pl) rfl).tr Fsq36
          have Ftq46 := (Gtq46.mono (B := k_pm) rfl).tr Ftq36
          have Isq46 := Isq46
          have Itq46 := Itq46
          have Gsq46 := Gsq46
          have Gtq46 := Gtq46
          have esq46_6 : sq46 64 1 = σ1 64 1 := (Gsq46 64 1 rfl).trans esq36_6
          rcases pcq46 with pcq46 | pcq46
          · show h_T g_P (g_Y ns) 60 64 [(0, .ref 63)] [] sq46 _
            clear hz43
            refine h_vret rfl rfl (d_retn hlv21 ?_)
            refine h_goto (pc' := 150) rfl rfl ?_
            refine h_aload_n (pc' := 151) rfl rfl rfl ?_
            refine h_getI (pc' := 154) (v := sq46 63 2) rfl rfl rfl rfl rfl rfl (fun z47 hz47 => ?_)
            have tz47 := tf_63_2 Isq46
            refine h_zne (tg := 180) (pc' := 157) rfl rfl rfl hz47 (fun c48 => ?_) (fun c48 => absurd c48 (by omega))
            clear hz47
            refine d_toM (g_inj ns) hlq46 hRq46 (fun lvw49 memw49 hlw49 hRw49 => ?_)
            show h_T g_P (g_Y ns) 151 73 [(0, .ref 98)] [] tq46 _
            refine h_vret rfl rfl (d_retn hlv44 ?_)
            refine h_goto (pc' := 178) rfl rfl ?_
            refine h_vret rfl rfl (d_retn hlv39 ?_)
            refine h_aload_n (pc' := 146) rfl rfl rfl ?_
            refine h_getI (pc' := 149) (v := tq46 98 13) rfl rfl rfl rfl rfl rfl (fun z50 hz50 => ?_)
            have tz50 := tf_98_13 Itq46
            refine h_zne (tg := 165) (pc' := 152) rfl rfl rfl hz50 (fun c51 => ?_) (fun c51 => absurd c51 (by omega))
            clear hz50
            refine d_toL (g_inj ns) hlw49 hRw49 (fun lvw52 memw52 hlw52 hRw52 => ?_)
            show h_T g_P (g_Y ns) 56 180 [(0, .ref 63), (1, .int x1)] [] sq46 _
            exact h_wk [(0, .ref 63)] ⟨rfl, trivial⟩ (kx0 _ _ Isq46 Itq46 Fsq46 Ftq46 (Int.le_antisymm (by omega) (by omega)) (Int.le_antisymm (by omega) (by omega)) (Int.le_antisymm (by omega) (by omega)) (by omega) (by omega) (fun h => absurd h (by omega)) (Or.inl ⟨⟨by omega, by omega⟩, ⟨by omega, by omega⟩, Int.le_antisymm (by omega) (by omega), Int.le_antisymm (by omega) (by omega)⟩) _ _ (h_al_ok ⟨rfl, trivial⟩ hlw52) hRw52)
          · show h_T g_P (g_Y ns) 60 64 [(0, .ref 63)] [] sq46 _
            clear hz43
            refine h_vret rfl rfl (d_retn hlv21 ?_)
            refine h_goto (pc' := 150) rfl rfl ?_
            refine d_toM (g_inj ns) hlq46 hRq46 (fun lvw53 memw53 hlw53 hRw53 => ?_)
            show h_T g_P (g_Y ns) 151 73 [(0, .ref 98)] [] tq46 _
            refine h_vret rfl rfl (d_retn hlv44 ?_)
            refine h_goto (pc' := 178) rfl rfl ?_
            refine h_vret rfl rfl (d_retn hlv39 ?_)
            refine d_toL (g_inj ns) hlw53 hRw53 (fun lvw54 memw54 hlw54 hRw54 => ?_)
            show h_T g_P (g_Y ns) 56 150 [(0, .ref 63), (1, .int x1)] [] sq46 _
            refine h_wk [(0, .ref 63)] ⟨rfl, trivial⟩ (ls_sc Isq46 Itq46 (hTL.fr (Fsq46.mono rfl) (Ftq46.mono rfl))   (Int.le_antisymm (by omega) (by omega)) (Int.le_antisymm (by omega) (by omega)) (Int.le_antisymm (by omega) (by omega)) (by omega) (yq46_5) (pcq46.elim (fun pcq46 => (Or.inl ⟨Int.le_antisymm (by omega) (by omega), Int.le_antisymm (by omega) (by omega), Int.le_antisymm (by omega) (by omega), Int.le_antisymm (by omega) (by omega), Int.le_antisymm (by omega) (by omega)⟩)) (fun pcq46 => (pcq46.elim (fun pcq46 => (Or.inr (Or.inl ⟨Int.le_antisymm (by omega) (by omega), Int.le_antisymm (by omega) (by omega), Int.le_antisymm (by omega) (by omega), Int.le_antisymm (by omega) (by omega), by omega⟩))) (fun pcq46 => (pcq46.elim (fun pcq46 => (Or.inr (Or.inr (Or.inl ⟨Int.le_antisymm (by omega) (by omega), Int.le_antisymm (by omega) (by omega), Int.le_antisymm (by omega) (by omega), Int.le_antisymm (by omega) (by omega), ⟨by omega, by omega⟩, ⟨by omega, by omega⟩, Int.le_antisymm (by omega) (by omega), by omega⟩)))) (fun pcq46 => (Or.inr (Or.inr (Or.inr ⟨Int.le_antisymm (by omega) (by omega), Int.le_antisymm (by omega) (by omega), Int.le_antisymm (by omega) (by omega), Int.le_antisymm (by omega) (by omega), by omega⟩))))))))) (fun sq55 tq55 Isq55 Itq55 Gsq55 Gtq55   yq55_0 yq55_1 yq55_2 yq55_3 yq55_4 yq55_5 pcq55 lvq55 memq55 hlq55 hRq55 => ?_) _ _ (h_al_ok ⟨rfl, trivial⟩ hlw54) hRw54)
            · have Fsq55 := (Gsq55.mono (B := k_pl) rfl).tr Fsq46
              have Ftq55 := (Gtq55.mono (B := k_pm) rfl).tr Ftq46
              have Isq55 := Isq55
              have Itq55 := Itq55
              have Gsq55 := Gsq55
              have Gtq55 := Gtq55
              have esq55_6 : sq55 64 1 = σ1 64 1 := (Gsq55 64 1 rfl).trans esq46_6
              rcases pcq55 with pcq55 | pcq55
              · show h_T g_P (g_Y ns) 56 180 [(0, .ref 63)] [] sq55 _
                refine d_toM (g_inj ns) hlq55 hRq55 (fun lvw56 memw56 hlw56 hRw56 => ?_)
                show h_T g_P (g_Y ns) 154 165 [(0, .ref 98)] [] tq55 _
                refine d_toL (g_inj ns) hlw56 hRw56 (fun lvw57 memw57 hlw57 hRw57 => ?_)
                show h_T g_P (g_Y ns) 56 180 [(0, .ref 63)] [] sq55 _
                exact h_wk [(0, .ref 63)] ⟨rfl, trivial⟩ (kx0 _ _ Isq55 Itq55 Fsq55 Ftq55 (Int.le_antisymm (by omega) (by omega)) (Int.le_antisymm (by omega) (by omega)) (Int.le_antisymm (by omega) (by omega)) (by omega) (by omega) (fun h => absurd h (by omega)) (Or.inl ⟨⟨by omega, by omega⟩, ⟨by omega, by omega⟩, Int.le_antisymm (by omega) (by omega), Int.le_antisymm (by omega) (by omega)⟩) _ _ (h_al_ok ⟨rfl, trivial⟩ hlw57) hRw57)
              · show h_T g_P (g_Y ns) 56 180 [(0, .ref 63)] [] sq55 _
                refine d_toM (g_inj ns) hlq55 hRq55 (fun lvw58 memw58 hlw58 hRw58 => ?_)
                show h_T g_P (g_Y ns) 154 165 [(0, .ref 98)] [] tq55 _
                refine d_toL (g_inj ns) hlw58 hRw58 (fun lvw59 memw59 hlw59 hRw59 => ?_)
                show h_T g_P (g_Y ns) 56 180 [(0, .ref 63)] [] sq55 _
                exact h_wk [(0, .ref 63)] ⟨rfl, trivial⟩ (kx0 _ _ Isq55 Itq55 Fsq55 Ftq55 (Int.le_antisymm (by omega) (by omega)) (Int.le_antisymm (by omega) (by omega)) (Int.le_antisymm (by omega) (by omega)) (by omega) (by omega) (yq55_5) (Or.inr ⟨Int.le_antisymm (by omega) (by omega), Int.le_antisymm (by omega) (by omega), Int.le_antisymm (by omega) (by omega), Int.le_antisymm (by omega) (by omega), by omega, by omega⟩) _ _ (h_al_ok ⟨rfl, trivial⟩ hlw59) hRw59)
      · clear hz37
        refine d_toL (g_inj ns) hlw26 hRq36 (fun lvw60 memw60 hlw60 hRw60 => ?_)
        show h_T g_P (g_Y ns) 57 20 [(0, .ref 63), (1, .int (Int32.ofInt 0))] [] sq36 _
        refine h_vret rfl rfl (d_retn hlv24 ?_)
        refine h_aload_n (pc' := 9) rfl rfl rfl ?_
        refine h_iconst (pc' := 10) (x := (Int32.ofInt 5)) rfl rfl rfl ?_
        refine h_call (sp := false) (pc' := 13) (M := [(0, .ref 63), (1, .int (Int32.ofInt 5))]) rfl rfl rfl rfl rfl rfl rfl rfl ?_
        refine h_aload_n (pc' := 1) rfl rfl rfl ?_
        refine h_getI (pc' := 4) (v := sq36 63 2) rfl rfl rfl rfl rfl rfl (fun z61 hz61 => ?_)
        have tz61 := tf_63_2 Isq36
        refine h_zne (tg := 30) (pc' := 7) rfl rfl rfl hz61 (fun c62 => ?_) (fun c62 => absurd c62 (by omega))
        clear hz61
        refine h_aload_n (pc' := 31) rfl rfl rfl ?_
        refine h_getI (pc' := 34) (v := sq36 63 2) rfl rfl rfl rfl rfl rfl (fun z63 hz63 => ?_)
        refine h_zne (tg := 60) (pc' := 37) rfl rfl rfl hz63 (fun c64 => ?_) (fun c64 => absurd c64 (by omega))
        clear hz63
        refine h_aload_n (pc' := 61) rfl rfl rfl ?_
        refine h_getR (pc' := 64) rfl rfl rfl rfl rfl ?_
        refine h_getI (pc' := 67) (v := sq36 64 5) rfl rfl rfl rfl rfl rfl (fun z65 hz65 => ?_)
        have tz65 := tf_64_5 Isq36
        refine h_istore_n (pc' := 68) (M := [(2, .int z65), (0, .ref 63), (1, .int (Int32.ofInt 5))]) rfl rfl rfl rfl ?_
        refine h_aload_n (pc' := 69) rfl rfl rfl ?_
        refine h_call (sp := false) (pc' := 72) (M := [(0, .ref 63)]) rfl rfl rfl rfl rfl rfl rfl rfl ?_
        refine h_aload_n (pc' := 1) rfl rfl rfl ?_
        refine h_getI (pc' := 4) (v := sq36 63 2) rfl rfl rfl rfl rfl rfl (fun z66 hz66 => ?_)
        refine h_zne (tg := 37) (pc' := 7) rfl rfl rfl hz66 (fun c67 => ?_) (fun c67 => absurd c67 (by omega))
        clear hz66
        refine h_vret rfl rfl (h_Kn ?_)
        refine h_iload_n (pc' := 73) rfl rfl rfl ?_
        refine h_iret rfl rfl (h_Kv ?_)
        refine h_istore_n (pc' := 14) (M := [(2, .int z65), (0, .ref 63), (1, .ref 72)]) rfl rfl rfl rfl ?_
        refine h_aload_n (pc' := 15) rfl rfl rfl ?_
        refine h_call (sp := false) (pc' := 18) (M := [(0, .ref 63)]) rfl rfl rfl rfl rfl rfl rfl rfl ?_
        refine h_aload_n (pc' := 1) rfl rfl rfl ?_
        refine h_getI (pc' := 4) (v := sq36 63 2) rfl rfl rfl rfl rfl rfl (fun z68 hz68 => ?_)
        refine h_zne (tg := 22) (pc' := 7) rfl rfl rfl hz68 (fun c69 => ?_) (fun c69 => absurd c69 (by omega))
        clear hz68
        refine h_iconst (pc' := 23) (x := (Int32.ofInt 0)) rfl rfl rfl ?_
        refine h_zret rfl rfl ci_0 (by omega) (h_Kv ?_)
        refine h_zeq (tg := 44) (pc' := 21) rfl rfl rfl ci_0 (fun c70 => ?_) (fun c70 => absurd (Int.le_antisymm (by omega) (by omega)) c70)
        refine h_aload_n (pc' := 45) rfl rfl rfl ?_
        refine h_iconst (pc' := 46) (x := (Int32.ofInt 5)) rfl rfl rfl ?_
        refine h_call (sp := false) (pc' := 49) (M := [(0, .ref 63), (1, .int (Int32.ofInt 5))]) rfl rfl rfl rfl rfl rfl rfl rfl ?_
        refine h_aload_n (pc' := 1) rfl rfl rfl ?_
        refine h_getI (pc' := 4) (v := sq36 63 2) rfl rfl rfl rfl rfl rfl (fun z71 hz71 => ?_)
        refine h_zne (tg := 30) (pc' := 7) rfl rfl rfl hz71 (fun c72 => ?_) (fun c72 => absurd c72 (by omega))
        clear hz71
        refine h_aload_n (pc' := 31) rfl rfl rfl ?_
        refine h_getI (pc' := 34) (v := sq36 63 2) rfl rfl rfl rfl rfl rfl (fun z73 hz73 => ?_)
        refine h_zne (tg := 60) (pc' := 37) rfl rfl rfl hz73 (fun c74 => ?_) (fun c74 => absurd c74 (by omega))
        clear hz73
        refine h_aload_n (pc' := 61) rfl rfl rfl ?_
        refine h_getR (pc' := 64) rfl rfl rfl rfl rfl ?_
        refine h_getI (pc' := 67) (v := sq36 64 5) rfl rfl rfl rfl rfl rfl (fun z75 hz75 => ?_)
        refine h_istore_n (pc' := 68) (M := [(2, .int z75), (0, .ref 63), (1, .int (Int32.ofInt 5))]) rfl rfl rfl rfl ?_
        refine h_aload_n (pc' := 69) rfl rfl rfl ?_
        refine h_call (sp := false) (pc' := 72) (M := [(0, .ref 63)]) rfl rfl rfl rfl rfl rfl rfl rfl ?_
        refine h_aload_n (pc' := 1) rfl rfl rfl ?_
        refine h_getI (pc' := 4) (v := sq36 63 2) rfl rfl rfl rfl rfl rfl (fun z76 hz76 => ?_)
        refine h_zne (tg := 37) (pc' := 7) rfl rfl rfl hz76 (fun c77 => ?_) (fun c77 => absurd c77 (by omega))
        clear hz76
        refine h_vret rfl rfl (h_Kn ?_)
        refine h_iload_n (pc' := 73) rfl rfl rfl ?_
        refine h_iret rfl rfl (h_Kv ?_)
        refine h_istore_n (pc' := 50) (M := [(3, .int z75), (2, .int z65), (0, .ref 63), (1, .ref 72)]) rfl rfl rfl rfl ?_
        refine h_aload_n (pc' := 51) rfl rfl rfl ?_
        refine h_getI (pc' := 54) (v := sq36 63 2) rfl rfl rfl rfl rfl rfl (fun z78 hz78 => ?_)
        refine h_zne (tg := 64) (pc' := 57) rfl rfl rfl hz78 (fun c79 => ?_) (fun c79 => absurd c79 (by omega))
        clear hz78
        refine h_vret rfl rfl (d_retn hlv21 ?_)
        clear hz65 hz75
        refine h_goto (pc' := 150) rfl rfl ?_
        refine h_aload_n (pc' := 151) rfl rfl rfl ?_
        refine h_getI (pc' := 154) (v := sq36 63 2) rfl rfl rfl rfl rfl rfl (fun z80 hz80 => ?_)
        refine h_zne (tg := 180) (pc' := 157) rfl rfl rfl hz80 (fun c81 => ?_) (fun c81 => absurd c81 (by omega))
        clear hz80
        exact h_wk [(0, .ref 63)] ⟨rfl, trivial⟩ (kx1 _ _ Isq36 Itq36 Fsq36 Ftq36 (Int.le_antisymm (by omega) (by omega)) (Int.le_antisymm (by omega) (by omega)) (Int.le_antisymm (by omega) (by omega)) (by omega) (by omega) (pcq36.elim (fun pcq36 => ⟨⟨by omega, by omega⟩, ⟨by omega, by omega⟩, Int.le_antisymm (by omega) (by omega), Int.le_antisymm (by omega) (by omega)⟩) (fun pcq36 => (pcq36.elim (fun pcq36 => (by exfalso; omega)) (fun pcq36 => (pcq36.elim (fun pcq36 => (by exfalso; omega)) (fun pcq36 => (pcq36.elim (fun pcq36 => (by exfalso; omega)) (fun pcq36 => (by exfalso; omega))))))))) _ _ (h_al_ok ⟨rfl, trivial⟩ hlw60) hRw60)
    · clear hz22
      refine h_iconst (pc' := 9) (x := (Int32.ofInt 1)) rfl rfl rfl ?_
      refine h_goto (pc' := 13) rfl rfl ?_
      refine h_zret rfl rfl ci_1 (by omega) (h_Kv ?_)
      refine d_call (g_inj ns) (pc' := 8) (m := 57) (M := [(0, .ref 63), (1, .int (Int32.ofInt 1))]) (rest := []) ⟨false, _, _, _, _, _, _, rfl, rfl, rfl, rfl, rfl, rfl, rfl⟩ (fun lv82 hlv82 => ?_)
      refine h_iload_n (pc' := 1) rfl rfl rfl ?_
      refine h_zeq (tg := 16) (pc' := 4) rfl rfl rfl ci_1 (fun c83 => absurd c83 (by omega)) (fun c83 => ?_)
      refine h_aload_n (pc' := 5) rfl rfl rfl ?_
      refine h_iconst (pc' := 6) (x := (Int32.ofInt 5)) rfl rfl rfl ?_
      refine h_aload_n (pc' := 7) rfl rfl rfl ?_
      refine h_getR (pc' := 10) rfl rfl rfl rfl rfl ?_
      refine h_getI (pc' := 13) (v := σ1 64 4) rfl rfl rfl rfl rfl rfl (fun z84 hz84 => ?_)
      have tz84 := tf_64_4 hI1
      refine h_call (sp := false) (pc' := 16) (M := [(0, .ref 63), (1, .int (Int32.ofInt 5)), (2, .int z84)]) rfl rfl rfl rfl rfl rfl rfl rfl ?_
      refine h_aload_n (pc' := 1) rfl rfl rfl ?_
      refine h_getI (pc' := 4) (v := σ1 63 2) rfl rfl rfl rfl rfl rfl (fun z85 hz85 => ?_)
      have tz85 := tf_63_2 hI1
      refine h_zne (tg := 17) (pc' := 7) rfl rfl rfl hz85 (fun c86 => absurd (Int.le_antisymm (by omega) (by omega)) c86) (fun c86 => ?_)
      clear hz85
      refine h_aload_n (pc' := 8) rfl rfl rfl ?_
      refine h_iload_n (pc' := 9) rfl rfl rfl ?_
      refine h_put (pc' := 12) rfl rfl rfl rfl rfl rfl ci_5 rfl (h_fgt (E := fun s => s 64 2 = σ1 64 2 ∧ s 64 4 = σ1 64 4 ∧ s 64 3 = σ1 64 3 ∧ s 64 5 = σ1 64 5 ∧ s 63 2 = 5 ∧ s 63 3 = σ1 63 3 ∧ s 64 1 = σ1 64 1 ∧ s 66 8 = σ1 66 8 ∧ s 66 9 = σ1 66 9 ∧ s 66 10 = σ1 66 10 ∧ s 69 2 = σ1 69 2 ∧ s 72 2 = σ1 72 2 ∧ s 63 5 = σ1 63 5 ∧ s = h_up σ1 63 2 5) _ (if_63_2 hI1 (by omega)) (F1.up rfl) ⟨rfl, rfl, rfl, rfl, rfl, rfl, rfl, rfl, rfl, rfl, rfl, rfl, rfl, rfl⟩ (fun s87 Is87 Fs87 (es87 : s87 64 2 = σ1 64 2 ∧ s87 64 4 = σ1 64 4 ∧ s87 64 3 = σ1 64 3 ∧ s87 64 5 = σ1 64 5 ∧ s87 63 2 = 5 ∧ s87 63 3 = σ1 63 3 ∧ s87 64 1 = σ1 64 1 ∧ s87 66 8 = σ1 66 8 ∧ s87 66 9 = σ1 66 9 ∧ s87 66 10 = σ1 66 10 ∧ s87 69 2 = σ1 69 2 ∧ s87 72 2 = σ1 72 2 ∧ s87 63 5 = σ1 63 5 ∧ s87 = h_up σ1 63 2 5) => ?_))
      have us87 := es87.2.2.2.2.2.2.2.2.2.2.2.2.2
      refine h_aload_n (pc' := 13) rfl rfl rfl ?_
      refine h_iload_n (pc' := 14) rfl rfl rfl ?_
      refine h_put (pc' := 17) rfl rfl rfl rfl rfl rfl hz84 rfl (h_fgt (E := fun s => s 64 2 = σ1 64 2 ∧ s 64 4 = σ1 64 4 ∧ s 64 3 = σ1 64 3 ∧ s 64 5 = σ1 64 5 ∧ s 63 2 = 5 ∧ s 63 3 = (σ1 64 4) ∧ s 64 1 = σ1 64 1 ∧ s 66 8 = σ1 66 8 ∧ s 66 9 = σ1 66 9 ∧ s 66 10 = σ1 66 10 ∧ s 69 2 = σ1 69 2 ∧ s 72 2 = σ1 72 2 ∧ s 63 5 = σ1 63 5 ∧ s = h_up s87 63 3 (σ1 64 4)) _ (if_63_3 Is87 (h_rgv hz84)) (Fs87.up rfl) ⟨es87.1, es87.2.1, es87.2.2.1, es87.2.2.2.1, es87.2.2.2.2.1, rfl, es87.2.2.2.2.2.2.1, es87.2.2.2.2.2.2.2.1, es87.2.2.2.2.2.2.2.2.1, es87.2.2.2.2.2.2.2.2.2.1, es87.2.2.2.2.2.2.2.2.2.2.1, es87.2.2.2.2.2.2.2.2.2.2.2.1, es87.2.2.2.2.2.2.2.2.2.2.2.2.1, rfl⟩ (fun s88 Is88 Fs88 (es88 : s88 64 2 = σ1 64 2 ∧ s88 64 4 = σ1 64 4 ∧ s88 64 3 = σ1 64 3 ∧ s88 64 5 = σ1 64 5 ∧ s88 63 2 = 5 ∧ s88 63 3 = (σ1 64 4) ∧ s88 64 1 = σ1 64 1 ∧ s88 66 8 = σ1 66 8 ∧ s88 66 9 = σ1 66 9 ∧ s88 66 10 = σ1 66 10 ∧ s88 69 2 = σ1 69 2 ∧ s88 72 2 = σ1 72 2 ∧ s88 63 5 = σ1 63 5 ∧ s88 = h_up s87 63 3 (σ1 64 4)) => ?_))
      clear es87
      have us88 := es88.2.2.2.2.2.2.2.2.2.2.2.2.2
      refine h_vret rfl rfl (h_Kn ?_)
      refine h_aload_n (pc' := 17) rfl rfl rfl ?_
      refine h_call (sp := false) (pc' := 20) (M := [(0, .ref 63)]) rfl rfl rfl rfl rfl rfl rfl rfl ?_
      refine h_aload_n (pc' := 1) rfl rfl rfl ?_
      refine h_getI (pc' := 4) (v := 5) rfl rfl rfl rfl rfl es88.2.2.2.2.1 (fun z89 hz89 => ?_)
      refine h_zne (tg := 37) (pc' := 7) rfl rfl rfl hz89 (fun c90 => ?_) (fun c90 => absurd c90 (by omega))
      clear hz89
      refine h_vret rfl rfl (h_Kn ?_)
      refine h_vret rfl rfl (d_retn hlv82 ?_)
      refine h_aload_n (pc' := 9) rfl rfl rfl ?_
      refine h_iconst (pc' := 10) (x := (Int32.ofInt 5)) rfl rfl rfl ?_
      refine h_call (sp := false) (pc' := 13) (M := [(0, .ref 63), (1, .int (Int32.ofInt 5))]) rfl rfl rfl rfl rfl rfl rfl rfl ?_
      refine h_aload_n (pc' := 1) rfl rfl rfl ?_
      refine h_getI (pc' := 4) (v := 5) rfl rfl rfl rfl rfl es88.2.2.2.2.1 (fun z91 hz91 => ?_)
      refine h_zne (tg := 30) (pc' := 7) rfl rfl rfl hz91 (fun c92 => ?_) (fun c92 => absurd c92 (by omega))
      clear hz91
      refine h_aload_n (pc' := 31) rfl rfl rfl ?_
      refine h_getI (pc' := 34) (v := 5) rfl rfl rfl rfl rfl es88.2.2.2.2.1 (fun z93 hz93 => ?_)
      refine h_zne (tg := 60) (pc' := 37) rfl rfl rfl hz93 (fun c94 => ?_) (fun c94 => absurd c94 (by omega))
      clear hz93
      refine h_aload_n (pc' := 61) rfl rfl rfl ?_
      refine h_getR (pc' := 64) rfl rfl rfl rfl rfl ?_
      refine h_getI (pc' := 67) (v := σ1 64 5) rfl rfl rfl rfl rfl es88.2.2.2.1 (fun z95 hz95 => ?_)
      have tz95 := tf_64_5 hI1
      refine h_istore_n (pc' := 68) (M := [(2, .int z95), (0, .ref 63), (1, .int (Int32.ofInt 5))]) rfl rfl rfl rfl ?_
      refine h_aload_n (pc' := 69) rfl rfl rfl ?_
      refine h_call (sp := false) (pc' := 72) (M := [(0, .ref 63)]) rfl rfl rfl rfl rfl rfl rfl rfl ?_
      refine h_aload_n (pc' := 1) rfl rfl rfl ?_
      refine h_getI (pc' := 4) (v := 5) rfl rfl rfl rfl rfl es88.2.2.2.2.1 (fun z96 hz96 => ?_)
      refine h_zne (tg := 37) (pc' := 7) rfl rfl rfl hz96 (fun c97 => ?_) (fun c97 => absurd c97 (by omega))
      clear hz96
      refine h_vret rfl rfl (h_Kn ?_)
      refine h_iload_n (pc' := 73) rfl rfl rfl ?_
      refine h_iret rfl rfl (h_Kv ?_)
      refine h_istore_n (pc' := 14) (M := [(2, .int z95), (0, .ref 63), (1, .ref 72)]) rfl rfl rfl rfl ?_
      refine h_aload_n (pc' := 15) rfl rfl rfl ?_
      refine h_call (sp := false) (pc' := 18) (M := [(0, .ref 63)]) rfl rfl rfl rfl rfl rfl rfl rfl ?_
      refine h_aload_n (pc' := 1) rfl rfl rfl ?_
      refine h_getI (pc' := 4) (v := 5) rfl rfl rfl rfl rfl es88.2.2.2.2.1 (fun z98 hz98 => ?_)
      refine h_zne (tg := 22) (pc' := 7) rfl rfl rfl hz98 (fun c99 => ?_) (fun c99 => absurd c99 (by omega))
      clear hz98
      refine h_iconst (pc' := 23) (x := (Int32.ofInt 0)) rfl rfl rfl ?_
      refine h_zret rfl rfl ci_0 (by omega) (h_Kv ?_)
      refine h_zeq (tg := 44) (pc' := 21) rfl rfl rfl ci_0 (fun c100 => ?_) (fun c100 => absurd (Int.le_antisymm (by omega) (by omega)) c100)
      refine h_aload_n (pc' := 45) rfl rfl rfl ?_
      refine h_iconst (pc' := 46) (x := (Int32.ofInt 5)) rfl rfl rfl ?_
      refine h_call (sp := false) (pc' := 49) (M := [(0, .ref 63), (1, .int (Int32.ofInt 5))]) rfl rfl rfl rfl rfl rfl rfl rfl ?_
      refine h_aload_n (pc' := 1) rfl rfl rfl ?_
      refine h_getI (pc' := 4) (v := 5) rfl rfl rfl rfl rfl es88.2.2.2.2.1 (fun z101 hz101 => ?_)
      refine h_zne (tg := 30) (pc' := 7) rfl rfl rfl hz101 (fun c102 => ?_) (fun c102 => absurd c102 (by omega))
      clear hz101
      refine h_aload_n (pc' := 31) rfl rfl rfl ?_
      refine h_getI (pc' := 34) (v := 5) rfl rfl rfl rfl rfl es88.2.2.2.2.1 (fun z103 hz103 => ?_)
      refine h_zne (tg := 60) (pc' := 37) rfl rfl rfl hz103 (fun c104 => ?_) (fun c104 => absurd c104 (by omega))
      clear hz103
      refine h_aload_n (pc' := 61) rfl rfl rfl ?_
      refine h_getR (pc' := 64) rfl rfl rfl rfl rfl ?_
      refine h_getI (pc' := 67) (v := σ1 64 5) rfl rfl rfl rfl rfl es88.2.2.2.1 (fun z105 hz105 => ?_)
      refine h_istore_n (pc' := 68) (M := [(2, .int z105), (0, .ref 63), (1, .int (Int32.ofInt 5))]) rfl rfl rfl rfl ?_
      refine h_aload_n (pc' := 69) rfl rfl rfl ?_
      refine h_call (sp := false) (pc' := 72) (M := [(0, .ref 63)]) rfl rfl rfl rfl rfl rfl rfl rfl ?_
      refine h_aload_n (pc' := 1) rfl rfl rfl ?_
      refine h_getI (pc' := 4) (v := 5) rfl rfl rfl rfl rfl es88.2.2.2.2.1 (fun z106 hz106 => ?_)
      refine h_zne (tg := 37) (pc' := 7) rfl rfl rfl hz106 (fun c107 => ?_) (fun c107 => absurd c107 (by omega))
      clear hz106
      refine h_vret rfl rfl (h_Kn ?_)
      refine h_iload_n (pc' := 73) rfl rfl rfl ?_
      refine h_iret rfl rfl (h_Kv ?_)
      refine h_istore_n (pc' := 50) (M := [(3, .int z105), (2, .int z95), (0, .ref 63), (1, .ref 72)]) rfl rfl rfl rfl ?_
      refine h_aload_n (pc' := 51) rfl rfl rfl ?_
      refine h_getI (pc' := 54) (v := 5) rfl rfl rfl rfl rfl es88.2.2.2.2.1 (fun z108 hz108 => ?_)
      refine h_zne (tg := 64) (pc' := 57) rfl rfl rfl hz108 (fun c109 => ?_) (fun c109 => absurd c109 (by omega))
      clear hz108
      refine h_vret rfl rfl (d_retn hlv21 ?_)
      clear hz105 hz95
      refine h_goto (pc' := 150) rfl rfl ?_
      refine h_aload_n (pc' := 151) rfl rfl rfl ?_
      refine h_getI (pc' := 154) (v := 5) rfl rfl rfl rfl rfl es88.2.2.2.2.1 (fun z110 hz110 => ?_)
      refine h_zne (tg := 180) (pc' := 157) rfl rfl rfl hz110 (fun c111 => ?_) (fun c111 => absurd c111 (by omega))
      clear hz110
      refine d_toM (g_inj ns) hl2 hR2 (fun lvw112 memw112 hlw112 hRw112 => ?_)
      show h_T g_P (g_Y ns) 154 23 [(0, .ref 98), (1, .int y1)] [] σ2 _
      refine h_iload_n (pc' := 24) rfl rfl rfl ?_
      refine h_iconst (pc' := 25) (x := (Int32.ofInt 3)) rfl rfl rfl ?_
      refine h_cgt (tg := 37) (pc' := 28) rfl rfl rfl hy1 ci_3 (fun c113 => ?_) (fun c113 => absurd c113 (by omega))
      refine h_iload_n (pc' := 38) rfl rfl rfl ?_
      refine h_iconst (pc' := 39) (x := (Int32.ofInt 4)) rfl rfl rfl ?_
      refine h_cne (tg := 53) (pc' := 42) rfl rfl rfl hy1 ci_4 (fun c114 => ?_) (fun c114 => absurd c114 (by omega))
      refine h_iload_n (pc' := 54) rfl rfl rfl ?_
      refine h_iconst (pc' := 55) (x := (Int32.ofInt 5)) rfl rfl rfl ?_
      refine h_cne (tg := 69) (pc' := 58) rfl rfl rfl hy1 ci_5 (fun c115 => absurd (Int.le_antisymm (by omega) (by omega)) c115) (fun c115 => ?_)
      refine h_aload_n (pc' := 59) rfl rfl rfl ?_
      refine h_getR (pc' := 62) rfl rfl rfl rfl rfl ?_
      refine h_bipush (pc' := 64) (x := (Int32.ofInt 25)) rfl rfl cb_25 ?_
      refine h_iald (pc' := 65) (v := σ2 101 25) rfl rfl rfl ci_25 (by omega) (by omega) rfl (fun z116 hz116 => ?_)
      have tz116 := ty_101_5 hI2 25 (by omega)
      refine h_iconst (pc' := 66) (x := (Int32.ofInt 3)) rfl rfl rfl ?_
      refine h_ceq (tg := 83) (pc' := 69) rfl rfl rfl hz116 ci_3 (fun c117 => ?_) (fun c117 => absurd (Int.le_antisymm (by omega) (by omega)) c117)
      clear hz116
      refine h_aload_n (pc' := 84) rfl rfl rfl ?_
      refine h_iconst (pc' := 85) (x := (Int32.ofInt 5)) rfl rfl rfl ?_
      refine h_call (sp := false) (pc' := 88) (M := [(0, .ref 98), (1, .int (Int32.ofInt 5))]) rfl rfl rfl rfl rfl rfl rfl rfl ?_
      refine h_aload_n (pc' := 1) rfl rfl rfl ?_
      refine h_getI (pc' := 4) (v := σ2 98 13) rfl rfl rfl rfl rfl rfl (fun z118 hz118 => ?_)
      have tz118 := tf_98_13 hI2
      refine h_zne (tg := 20) (pc' := 7) rfl rfl rfl hz118 (fun c119 => absurd (Int.le_antisymm (by omega) (by omega)) c119) (fun c119 => ?_)
      clear hz118
      refine h_aload_n (pc' := 8) rfl rfl rfl ?_
      refine h_iload_n (pc' := 9) rfl rfl rfl ?_
      refine h_put (pc' := 12) rfl rfl rfl rfl rfl rfl ci_5 rfl (h_fgt (E := fun s => s 98 15 = σ2 98 15 ∧ s 98 16 = σ2 98 16 ∧ s 98 17 = σ2 98 17 ∧ s 98 18 = σ2 98 18 ∧ s 98 13 = 5 ∧ s 98 14 = σ2 98 14 ∧ s 98 5 = σ2 98 5 ∧ s 98 6 = σ2 98 6 ∧ s 98 7 = σ2 98 7 ∧ s 98 8 = σ2 98 8 ∧ s 98 9 = σ2 98 9 ∧ s 101 18 = σ2 101 18 ∧ s 101 25 = σ2 101 25 ∧ s 101 43 = σ2 101 43 ∧ s = h_up σ2 98 13 5) _ (if_98_13 hI2 (by omega)) (F2.up rfl) ⟨rfl, rfl, rfl, rfl, rfl, rfl, rfl, rfl, rfl, rfl, rfl, rfl, rfl, rfl, rfl⟩ (fun s120 Is120 Fs120 (es120 : s120 98 15 = σ2 98 15 ∧ s120 98 16 = σ2 98 16 ∧ s120 98 17 = σ2 98 17 ∧ s120 98 18 = σ2 98 18 ∧ s120 98 13 = 5 ∧ s120 98 14 = σ2 98 14 ∧ s120 98 5 = σ2 98 5 ∧ s120 98 6 = σ2 98 6 ∧ s120 98 7 = σ2 98 7 ∧ s120 98 8 = σ2 98 8 ∧ s120 98 9 = σ2 98 9 ∧ s120 101 18 = σ2 101 18 ∧ s120 101 25 = σ2 101 25 ∧ s120 101 43 = σ2 101 43 ∧ s120 = h_up σ2 98 13 5) => ?_))
      have us120 := es120.2.2.2.2.2.2.2.2.2.2.2.2.2.2
      refine h_aload_n (pc' := 13) rfl rfl rfl ?_
      refine h_aload_n (pc' := 14) rfl rfl rfl ?_
      refine h_getI (pc' := 17) (v := σ2 98 16) rfl rfl rfl rfl rfl es120.2.1 (fun z121 hz121 => ?_)
      have tz121 := tf_98_16 hI2
      refine h_put (pc' := 20) rfl rfl rfl rfl rfl rfl hz121 rfl (h_fgt (E := fun s => s 98 15 = σ2 98 15 ∧ s 98 16 = σ2 98 16 ∧ s 98 17 = σ2 98 17 ∧ s 98 18 = σ2 98 18 ∧ s 98 13 = 5 ∧ s 98 14 = (σ2 98 16) ∧ s 98 5 = σ2 98 5 ∧ s 98 6 = σ2 98 6 ∧ s 98 7 = σ2 98 7 ∧ s 98 8 = σ2 98 8 ∧ s 98 9 = σ2 98 9 ∧ s 101 18 = σ2 101 18 ∧ s 101 25 = σ2 101 25 ∧ s 101 43 = σ2 101 43 ∧ s = h_up s120 98 14 (σ2 98 16)) _ (if_98_14 Is120 (h_rgv hz121)) (Fs120.up rfl) ⟨es120.1, es120.2.1, es120.2.2.1, es120.2.2.2.1, es120.2.2.2.2.1, rfl, es120.2.2.2.2.2.2.1, es120.2.2.2.2.2.2.2.1, es120.2.2.2.2.2.2.2.2.1, es120.2.2.2.2.2.2.2.2.2.1, es120.2.2.2.2.2.2.2.2.2.2.1, es120.2.2.2.2.2.2.2.2.2.2.2.1, es120.2.2.2.2.2.2.2.2.2.2.2.2.1, es120.2.2.2.2.2.2.2.2.2.2.2.2.2.1, rfl⟩ (fun s122 Is122 Fs122 (es122 : s122 98 15 = σ2 98 15 ∧ s122 98 16 = σ2 98 16 ∧ s122 98 17 = σ2 98 17 ∧ s122 98 18 = σ2 98 18 ∧ s122 98 13 = 5 ∧ s122 98 14 = (σ2 98 16) ∧ s122 98 5 = σ2 98 5 ∧ s122 98 6 = σ2 98 6 ∧ s122 98 7 = σ2 98 7 ∧ s122 98 8 = σ2 98 8 ∧ s122 98 9 = σ2 98 9 ∧ s122 101 18 = σ2 101 18 ∧ s122 101 25 = σ2 101 25 ∧ s122 101 43 = σ2 101 43 ∧ s122 = h_up s120 98 14 (σ2 98 16)) => ?_))
      clear es120
      have us122 := es122.2.2.2.2.2.2.2.2.2.2.2.2.2.2
      refine h_vret rfl rfl (h_Kn ?_)
      refine h_iload_n (pc' := 89) rfl rfl rfl ?_
      refine h_bipush (pc' := 91) (x := (Int32.ofInt 7)) rfl rfl cb_7 ?_
      refine h_cne (tg := 106) (pc' := 94) rfl rfl rfl hy1 ci_7 (fun c123 => ?_) (fun c123 => absurd c123 (by omega))
      have uH124 := tf_98_7 Is122
      refine h_wk [(0, .ref 98), (1, .int y1)] ⟨rfl, rfl, trivial⟩ (lm_pt _ Is122 y1 _ hy1 (by omega) (fun H124 hH124 => (h_fgt (E := fun s => s 98 15 = σ2 98 15 ∧ s 98 16 = σ2 98 16 ∧ s 98 17 = σ2 98 17 ∧ s 98 18 = σ2 98 18 ∧ s 98 13 = 5 ∧ s 98 14 = (σ2 98 16) ∧ s 98 5 = σ2 98 5 ∧ s 98 6 = σ2 98 6 ∧ s 98 7 = H124 ∧ s 98 8 = σ2 98 8 ∧ s 98 9 = σ2 98 9 ∧ s 101 18 = σ2 101 18 ∧ s 101 25 = σ2 101 25 ∧ s 101 43 = σ2 101 43 ∧ s = h_up s122 98 7 H124) _ (if_98_7 Is122 (by omega)) (Fs122.up rfl) ⟨es122.1, es122.2.1, es122.2.2.1, es122.2.2.2.1, es122.2.2.2.2.1, es122.2.2.2.2.2.1, es122.2.2.2.2.2.2.1, es122.2.2.2.2.2.2.2.1, rfl, es122.2.2.2.2.2.2.2.2.2.1, es122.2.2.2.2.2.2.2.2.2.2.1, es122.2.2.2.2.2.2.2.2.2.2.2.1, es122.2.2.2.2.2.2.2.2.2.2.2.2.1, es122.2.2.2.2.2.2.2.2.2.2.2.2.2.1, rfl⟩ (fun s125 Is125 Fs125 (es125 : s125 98 15 = σ2 98 15 ∧ s125 98 16 = σ2 98 16 ∧ s125 98 17 = σ2 98 17 ∧ s125 98 18 = σ2 98 18 ∧ s125 98 13 = 5 ∧ s125 98 14 = (σ2 98 16) ∧ s125 98 5 = σ2 98 5 ∧ s125 98 6 = σ2 98 6 ∧ s125 98 7 = H124 ∧ s125 98 8 = σ2 98 8 ∧ s125 98 9 = σ2 98 9 ∧ s125 101 18 = σ2 101 18 ∧ s125 101 25 = σ2 101 25 ∧ s125 101 43 = σ2 101 43 ∧ s125 = h_up s122 98 7 H124) => ?_))))
      clear es122
      have us125 := es125.2.2.2.2.2.2.2.2.2.2.2.2.2.2
      refine h_aload_n (pc' := 129) rfl rfl rfl ?_
      refine h_call (sp := false) (pc' := 132) (M := [(0, .ref 98)]) rfl rfl rfl rfl rfl rfl rfl rfl ?_
      refine h_aload_n (pc' := 1) rfl rfl rfl ?_
      refine h_getI (pc' := 4) (v := 5) rfl rfl rfl rfl rfl es125.2.2.2.2.1 (fun z126 hz126 => ?_)
      refine h_zle (tg := 8) (pc' := 7) rfl rfl rfl hz126 (fun c127 => absurd c127 (by omega)) (fun c127 => ?_)
      clear hz126
      refine h_vret rfl rfl (h_Kn ?_)
      refine h_aload_n (pc' := 133) rfl rfl rfl ?_
      refine h_getI (pc' := 136) (v := 5) rfl rfl rfl rfl rfl es125.2.2.2.2.1 (fun z128 hz128 => ?_)
      refine h_zle (tg := 140) (pc' := 139) rfl rfl rfl hz128 (fun c129 => absurd c129 (by omega)) (fun c129 => ?_)
      clear hz128
      refine d_toL (g_inj ns) hlw112 hRw112 (fun lvw130 memw130 hlw130 hRw130 => ?_)
      show h_T g_P (g_Y ns) 56 180 [(0, .ref 63), (1, .int x1)] [] s88 _
      exact h_wk [(0, .ref 63)] ⟨rfl, trivial⟩ (kx1 _ _ Is88 Is125 Fs88 Fs125 (Int.le_antisymm (by omega) (by omega)) (Int.le_antisymm (by omega) (by omega)) (Int.le_antisymm (by omega) (by omega)) (by omega) (by omega) ⟨⟨by omega, by omega⟩, ⟨by omega, by omega⟩, Int.le_antisymm (by omega) (by omega), Int.le_antisymm (by omega) (by omega)⟩ _ _ (h_al_ok ⟨rfl, trivial⟩ hlw130) hRw130)
