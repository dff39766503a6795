set_option maxHeartbeats 100000000 in
theorem ls_mar {ns : Nat} {σ1 σ2 : h_S} (hI1 : h_I σ1) (hI2 : h_I σ2) (hTL : d_tape σ1 σ2) (x1 : Int32) (a1 : Int) (hx1 : x1.toInt = a1) (y1 : Int32) (c1 : Int) (hy1 : y1.toInt = c1) (pr0 : σ1 64 2 = σ2 98 15) (pr1 : σ1 64 4 = σ2 98 16) (pr2 : σ1 63 2 = σ2 98 13) (pr3 : σ1 66 8 = σ2 98 5) (pr4 : σ1 66 9 = σ2 98 6) (pr5 : σ1 66 10 = σ2 101 43) (pr6 : σ1 69 2 = σ2 101 18) (pr7 : σ1 72 2 = σ2 101 25) (pr8 : σ1 63 5 = σ2 98 7) (pr9 : σ1 64 2 ≤ σ1 64 1) (pr10 : d_RD σ1 σ2) (pr11 : a1 = c1) (pr12 : a1 = 4) (pc0 : ((σ1 63 2 = 0) ∧ (σ2 98 13 = 0))) {cs1 cs2 : List d_Fr} {Q : d_Q} (kx0 : ∀ (s t : h_S), h_I s → h_I t → h_F (k_in k_pl) s σ1 → h_F (k_in k_pm) t σ2 → (s 64 2 = t 98 15) → (s 64 4 = t 98 16) → (s 63 2 = t 98 13) → (s 64 2 ≤ s 64 1) → (σ1 64 2 ≤ s 64 2) → (d_ok s t) → (((1 ≤ s 63 2 ∧ s 63 2 ≤ 6) ∧ (1 ≤ t 98 13 ∧ t 98 13 ≤ 6) ∧ (s 63 2 = t 98 13) ∧ (s 63 3 = t 98 14)) ∨ ((s 63 2 = 0) ∧ (s 64 3 = 3) ∧ (t 98 13 = 0) ∧ (t 98 17 = 3) ∧ (s 64 4 < s 64 2) ∧ (σ1 64 2 < s 64 2))) → ∀ lv2 mem2, h_loc [(0, .ref 98)] lv2 → h_R (g_Y ns) t mem2 → h_T g_P (g_Y ns) 56 180 [(0, .ref 63)] [] s (d_cs g_P (g_Y ns) cs1 (d_L g_P (g_Y ns) (154, 165, lv2, []) cs2 mem2 Q))) (kx1 : ∀ (s t : h_S), h_I s → h_I t → h_F (k_in k_pl) s σ1 → h_F (k_in k_pm) t σ2 → (s 64 2 = t 98 15) → (s 64 4 = t 98 16) → (s 63 2 = t 98 13) → (s 64 2 ≤ s 64 1) → (σ1 64 2 ≤ s 64 2) → (((1 ≤ s 63 2 ∧ s 63 2 ≤ 6) ∧ (1 ≤ t 98 13 ∧ t 98 13 ≤ 6) ∧ (s 63 2 = t 98 13) ∧ (s 63 3 = t 98 14))) → ∀ lv2 mem2, h_loc [(0, .ref 98)] lv2 → h_R (g_Y ns) t mem2 → h_T g_P (g_Y ns) 56 180 [(0, .ref 63)] [] s (d_cs g_P (g_Y ns) cs1 (d_L g_P (g_Y ns) (154, 139, lv2, []) cs2 mem2 Q))) : ∀ lv2 mem2, h_loc [(0, .ref 98), (1, .int y1)] lv2 → h_R (g_Y ns) σ2 mem2 → h_T g_P (g_Y ns) 56 88 [(0, .ref 63), (1, .int x1)] [] σ1 (d_cs g_P (g_Y ns) cs1 (d_L g_P (g_Y ns) (154, 23, lv2, []) cs2 mem2 Q)) := by
  intro lv2 mem2 hl2 hR2
  have hT := hTL.1
  have hL := hTL.2
  have F1 : h_F (k_in k_pl) σ1 σ1 := h_F.rf
  have F2 : h_F (k_in k_pm) σ2 σ2 := h_F.rf
  have ge0 := tf_64_1 hI1
  have ge1 := tf_66_8 hI1
  have ge2 := tf_66_9 hI1
  have ge3 := tf_66_10 hI1
  have ge4 := tf_69_2 hI1
  have ge5 := tf_72_2 hI1
  have ge6 := tf_63_5 hI1
  have ge7 := tf_63_2 hI1
  have ge8 := tf_98_8 hI2
  have ge9 := tf_98_9 hI2
  have ge10 := tf_98_13 hI2
  rcases pc0 with pc0
  · show h_T g_P (g_Y ns) 56 88 [(0, .ref 63), (1, .int x1)] [] σ1 _
    refine h_aload_n (pc' := 89) rfl rfl rfl ?_
    refine h_aload_n (pc' := 90) rfl rfl rfl ?_
    refine h_getR (pc' := 93) rfl rfl rfl rfl rfl ?_
    refine h_getR (pc' := 96) rfl rfl rfl rfl rfl ?_
    refine d_call (g_inj ns) (pc' := 99) (m := 60) (M := [(0, .ref 63), (1, .ref 69)]) (rest := []) ⟨false, _, _, _, _, _, _, rfl, rfl, rfl, rfl, rfl, rfl, rfl⟩ (fun lv21 hlv21 => ?_)
    refine h_aload_n (pc' := 1) rfl rfl rfl ?_
    refine h_aload_n (pc' := 2) rfl rfl rfl ?_
    refine h_call (sp := false) (pc' := 5) (M := [(0, .ref 69)]) rfl rfl rfl rfl rfl rfl rfl rfl ?_
    refine h_aload_n (pc' := 1) rfl rfl rfl ?_
    refine h_getI (pc' := 4) (v := σ1 69 2) rfl rfl rfl rfl rfl rfl (fun z22 hz22 => ?_)
    have tz22 := tf_69_2 hI1
    refine h_iconst (pc' := 5) (x := (Int32.ofInt 3)) rfl rfl rfl ?_
    refine h_clt (tg := 12) (pc' := 8) rfl rfl rfl hz22 ci_3 (fun c23 => ?_) (fun c23 => ?_)
    · clear hz22
      refine h_iconst (pc' := 13) (x := (Int32.ofInt 0)) rfl rfl rfl ?_
      refine h_zret rfl rfl ci_0 (by omega) (h_Kv ?_)
      refine d_call (g_inj ns) (pc' := 8) (m := 57) (M := [(0, .ref 63), (1, .int (Int32.ofInt 0))]) (rest := []) ⟨false, _, _, _, _, _, _, rfl, rfl, rfl, rfl, rfl, rfl, rfl⟩ (fun lv24 hlv24 => ?_)
      refine h_iload_n (pc' := 1) rfl rfl rfl ?_
      refine h_zeq (tg := 16) (pc' := 4) rfl rfl rfl ci_0 (fun c25 => ?_) (fun c25 => absurd (Int.le_antisymm (by omega) (by omega)) c25)
      refine h_aload_n (pc' := 17) rfl rfl rfl ?_
      refine d_toM (g_inj ns) hl2 hR2 (fun lvw26 memw26 hlw26 hRw26 => ?_)
      show h_T g_P (g_Y ns) 154 23 [(0, .ref 98), (1, .int y1)] [] σ2 _
      refine h_iload_n (pc' := 24) rfl rfl rfl ?_
      refine h_iconst (pc' := 25) (x := (Int32.ofInt 3)) rfl rfl rfl ?_
      refine h_cgt (tg := 37) (pc' := 28) rfl rfl rfl hy1 ci_3 (fun c27 => ?_) (fun c27 => absurd c27 (by omega))
      refine h_iload_n (pc' := 38) rfl rfl rfl ?_
      refine h_iconst (pc' := 39) (x := (Int32.ofInt 4)) rfl rfl rfl ?_
      refine h_cne (tg := 53) (pc' := 42) rfl rfl rfl hy1 ci_4 (fun c28 => absurd (Int.le_antisymm (by omega) (by omega)) c28) (fun c28 => ?_)
      refine h_aload_n (pc' := 43) rfl rfl rfl ?_
      refine h_getR (pc' := 46) rfl rfl rfl rfl rfl ?_
      refine h_bipush (pc' := 48) (x := (Int32.ofInt 18)) rfl rfl cb_18 ?_
      refine h_iald (pc' := 49) (v := σ2 101 18) rfl rfl rfl ci_18 (by omega) (by omega) rfl (fun z29 hz29 => ?_)
      have tz29 := ty_101_3 hI2 18 (by omega)
      refine h_iconst (pc' := 50) (x := (Int32.ofInt 3)) rfl rfl rfl ?_
      refine h_ceq (tg := 83) (pc' := 53) rfl rfl rfl hz29 ci_3 (fun c30 => absurd c30 (by omega)) (fun c30 => ?_)
      clear hz29
      refine h_iload_n (pc' := 54) rfl rfl rfl ?_
      refine h_iconst (pc' := 55) (x := (Int32.ofInt 5)) rfl rfl rfl ?_
      refine h_cne (tg := 69) (pc' := 58) rfl rfl rfl hy1 ci_5 (fun c31 => ?_) (fun c31 => absurd c31 (by omega))
      refine h_iload_n (pc' := 70) rfl rfl rfl ?_
      refine h_bipush (pc' := 72) (x := (Int32.ofInt 6)) rfl rfl cb_6 ?_
      refine h_cne (tg := 88) (pc' := 75) rfl rfl rfl hy1 ci_6 (fun c32 => ?_) (fun c32 => absurd c32 (by omega))
      refine h_iload_n (pc' := 89) rfl rfl rfl ?_
      refine h_bipush (pc' := 91) (x := (Int32.ofInt 7)) rfl rfl cb_7 ?_
      refine h_cne (tg := 106) (pc' := 94) rfl rfl rfl hy1 ci_7 (fun c33 => ?_) (fun c33 => absurd c33 (by omega))
      have uH34 := tf_98_7 hI2
      refine h_wk [(0, .ref 98), (1, .int y1)] ⟨rfl, rfl, trivial⟩ (lm_pt _ hI2 y1 _ hy1 (by omega) (fun H34 hH34 => (h_fgt (E := fun s => s 98 15 = σ2 98 15 ∧ s 98 16 = σ2 98 16 ∧ s 98 17 = σ2 98 17 ∧ s 98 18 = σ2 98 18 ∧ s 98 13 = σ2 98 13 ∧ s 98 14 = σ2 98 14 ∧ s 98 5 = σ2 98 5 ∧ s 98 6 = σ2 98 6 ∧ s 98 7 = H34 ∧ s 98 8 = σ2 98 8 ∧ s 98 9 = σ2 98 9 ∧ s 101 18 = σ2 101 18 ∧ s 101 25 = σ2 101 25 ∧ s 101 43 = σ2 101 43 ∧ s = h_up σ2 98 7 H34) _ (if_98_7 hI2 (by omega)) (F2.up rfl) ⟨rfl, rfl, rfl, rfl, rfl, rfl, rfl, rfl, rfl, rfl, rfl, rfl, rfl, rfl, rfl⟩ (fun s35 Is35 Fs35 (es35 : s35 98 15 = σ2 98 15 ∧ s35 98 16 = σ2 98 16 ∧ s35 98 17 = σ2 98 17 ∧ s35 98 18 = σ2 98 18 ∧ s35 98 13 = σ2 98 13 ∧ s35 98 14 = σ2 98 14 ∧ s35 98 5 = σ2 98 5 ∧ s35 98 6 = σ2 98 6 ∧ s35 98 7 = H34 ∧ s35 98 8 = σ2 98 8 ∧ s35 98 9 = σ2 98 9 ∧ s35 101 18 = σ2 101 18 ∧ s35 101 25 = σ2 101 25 ∧ s35 101 43 = σ2 101 43 ∧ s35 = h_up σ2 98 7 H34) => ?_))))
      have us35 := es35.2.2.2.2.2.2.2.2.2.2.2.2.2.2
      refine h_aload_n (pc' := 129) rfl rfl rfl ?_
      refine d_pcall (g_inj ns) (m1 := 54) (pc1' := 20) (M1 := [(0, .ref 63)]) (rest1 := []) (m2 := 148) (pc2' := 132) (M2 := [(0, .ref 98)]) (rest2 := []) ⟨false, _, _, _, _, _, _, rfl, rfl, rfl, rfl, rfl, rfl, rfl⟩ ⟨false, _, _, _, _, _, _, rfl, rfl, rfl, rfl, rfl, rfl, rfl⟩ hRw26 ?_
      refine pp_step hI1 Is35 (hTL.fr (F1.mono rfl) (Fs35.mono rfl)) (Int.le_antisymm (by omega) (by omega)) (Int.le_antisymm (by omega) (by omega)) (Int.le_antisymm (by omega) (by omega)) (by omega) (Or.inr ⟨Int.le_antisymm (by omega) (by omega), Int.le_antisymm (by omega) (by omega)⟩) (fun sq36 tq36 Isq36 Itq36 Gsq36 Gtq36 yq36_0 yq36_1 yq36_2 yq36_3 yq36_4 pcq36 memq36 hRq36 => ?_)
      have Fsq36 := (Gsq36.mono (B := k_pl) rfl).tr F1
      have Ftq36 := (Gtq36.mono (B := k_pm) rfl).tr Fs35
      have esq36_6 : sq36 64 1 = σ1 64 1 := (Gsq36 64 1 rfl).trans rfl
      have esq36_7 : sq36 66 8 = σ1 66 8 := (Gsq36 66 8 rfl).trans rfl
      have esq36_8 : sq36 66 9 = σ1 66 9 := (Gsq36 66 9 rfl).trans rfl
      have esq36_9 : sq36 66 10 = σ1 66 10 := (Gsq36 66 10 rfl).trans rfl
      have esq36_10 : sq36 69 2 = σ1 69 2 := (Gsq36 69 2 rfl).trans rfl
      have esq36_11 : sq36 72 2 = σ1 72 2 := (Gsq36 72 2 rfl).trans rfl
      have esq36_12 : sq36 63 5 = σ1 63 5 := (Gsq36 63 5 rfl).trans rfl
      have etq36_6 : tq36 98 5 = σ2 98 5 := (Gtq36 98 5 rfl).trans es35.2.2.2.2.2.2.1
      have etq36_7 : tq36 98 6 = σ2 98 6 := (Gtq36 98 6 rfl).trans es35.2.2.2.2.2.2.2.1
      have etq36_8 : tq36 98 7 = H34 := (Gtq36 98 7 rfl).trans es35.2.2.2.2.2.2.2.2.1
      have etq36_9 : tq36 98 8 = σ2 98 8 := (Gtq36 98 8 rfl).trans es35.2.2.2.2.2.2.2.2.2.1
      have etq36_10 : tq36 98 9 = σ2 98 9 := (Gtq36 98 9 rfl).trans es35.2.2.2.2.2.2.2.2.2.2.1
      have etq36_11 : tq36 101 18 = σ2 101 18 := (Gtq36 101 18 rfl).trans es35.2.2.2.2.2.2.2.2.2.2.2.1
      have etq36_12 : tq36 101 25 = σ2 101 25 := (Gtq36 101 25 rfl).trans es35.2.2.2.2.2.2.2.2.2.2.2.2.1
      have etq36_13 : tq36 101 43 = σ2 101 43 := (Gtq36 101 43 rfl).trans es35.2.2.2.2.2.2.2.2.2.2.2.2.2.1
      show h_T g_P (g_Y ns) 154 132 [(0, .ref 98), (1, .int y1)] [] tq36 _
      refine h_aload_n (pc' := 133) rfl rfl rfl ?_
      refine h_getI (pc' := 136) (v := tq36 98 13) rfl rfl rfl rfl rfl rfl (fun z37 hz37 => ?_)
      have tz37 := tf_98_13 Itq36
      refine h_zle (tg := 140) (pc' := 139) rfl rfl rfl hz37 (fun c38 => ?_) (fun c38 => ?_)
      · clear hz37
        refine h_aload_n (pc' := 141) rfl rfl rfl ?_
        refine h_iload_n (pc' := 142) rfl rfl rfl ?_
        refine d_call (g_inj ns) (pc' := 145) (m := 153) (M := [(0, .ref 98), (1, .int y1)]) (rest := []) ⟨false, _, _, _, _, _, _, rfl, rfl, rfl, rfl, rfl, rfl, rfl⟩ (fun lv39 hlv39 => ?_)
        refine h_iload_n (pc' := 1) rfl rfl rfl ?_
        refine h_iconst (pc' := 2) (x := (Int32.ofInt 3)) rfl rfl rfl ?_
        refine h_cgt (tg := 61) (pc' := 5) rfl rfl rfl hy1 ci_3 (fun c40 => ?_) (fun c40 => absurd c40 (by omega))
        refine h_iload_n (pc' := 62) rfl rfl rfl ?_
        refine h_iconst (pc' := 63) (x := (Int32.ofInt 4)) rfl rfl rfl ?_
        refine h_cne (tg := 82) (pc' := 66) rfl rfl rfl hy1 ci_4 (fun c41 => absurd (Int.le_antisymm (by omega) (by omega)) c41) (fun c41 => ?_)
        refine h_aload_n (pc' := 67) rfl rfl rfl ?_
        refine h_bipush (pc' := 69) (x := (Int32.ofInt 12)) rfl rfl cb_12 ?_
        refine h_aload_n (pc' := 70) rfl rfl rfl ?_
        refine h_getR (pc' := 73) rfl rfl rfl rfl rfl ?_
        refine h_bipush (pc' := 75) (x := (Int32.ofInt 18)) rfl rfl cb_18 ?_
        refine h_iald (pc' := 76) (v := σ2 101 18) rfl rfl rfl ci_18 (by omega) (by omega) etq36_11 (fun z42 hz42 => ?_)
        refine d_call (g_inj ns) (pc' := 79) (m := 151) (M := [(0, .ref 98), (1, .int (Int32.ofInt 12)), (2, .int z42)]) (rest := []) ⟨false, _, _, _, _, _, _, rfl, rfl, rfl, rfl, rfl, rfl, rfl⟩ (fun lv43 hlv43 => ?_)
        refine d_toL (g_inj ns) hlw26 hRq36 (fun lvw44 memw44 hlw44 hRw44 => ?_)
        show h_T g_P (g_Y ns) 57 20 [(0, .ref 63), (1, .int (Int32.ofInt 0))] [] sq36 _
        refine h_vret rfl rfl (d_retn hlv24 ?_)
        refine h_wk [(0, .ref 63), (1, .ref 69)] ⟨rfl, rfl, trivial⟩ (ls_mar_b Isq36 Itq36 (hTL.fr (Fsq36.mono rfl) (Ftq36.mono rfl))  z42 _ hz42 (Int.le_antisymm (by omega) (by omega)) (Int.le_antisymm (by omega) (by omega)) (Int.le_antisymm (by omega) (by omega)) (Int.le_antisymm (by omega) (by omega)) (Int.le_antisymm (by omega) (by omega)) (Int.le_antisymm (by omega) (by omega)) (Int.le_antisymm (by omega) (by omega)) (Int.le_antisymm (by omega) (by omega)) (Int.le_antisymm (by omega) (by omega)) (by omega) (d_mk ((Gsq36 66 8 rfl)) ((Gsq36 66 9 rfl)) ((Gsq36 66 10 rfl)) ((Gsq36 69 2 rfl)) ((Gsq36 72 2 rfl)) ((Gsq36 63 5 rfl)) (fun j => (Gsq36 67 j rfl)) (fun j => (Gsq36 68 j rfl)) (fun j => (Gsq36 70 j rfl)) (fun j => (Gsq36 71 j rfl)) (fun j => (Gsq36 73 j rfl)) (fun j => (Gsq36 74 j rfl)) (fun j => (Gsq36 75 j rfl)) (fun j => (Gsq36 76 j rfl)) (fun j => (Gsq36 77 j rfl)) (fun j => (Gsq36 78 j rfl)) ((Gtq36 98 5 rfl).trans (h_upd us35 (by decide))) ((Gtq36 98 6 rfl).trans (h_upd us35 (by decide))) (by omega) ((Gtq36 98 8 rfl).trans (h_upd us35 (by decide))) ((Gtq36 98 9 rfl).trans (h_upd us35 (by decide))) (fun j => (Gtq36 101 j rfl).trans (h_upo us35 rfl j)) (pr10)) (Int.le_antisymm (by omega) (by omega)) (pcq36.elim (fun pcq36 => (by exfalso; omega)) (fun pcq36 => (pcq36.elim (fun pcq36 => (Or.inl ⟨Int.le_antisymm (by omega) (by omega), Int.le_antisymm (by omega) (by omega), ⟨by omega, by omega⟩, Int.le_antisymm (by omega) (by omega), Int.le_antisymm (by omega) (by omega), ⟨by omega, by omega⟩, Int.le_antisymm (by omega) (by omega)⟩)) (fun pcq36 => (pcq36.elim (fun pcq36 => (Or.inr (Or.inl ⟨Int.le_antisymm (by omega) (by omega), Int.le_antisymm (by omega) (by omega), ⟨by omega, by omega⟩, Int.le_antisymm (by omega) (by omega), Int.le_antisymm (by omega) (by omega), ⟨by omega, by omega⟩, by omega⟩))) (fun pcq36 => (pcq36.elim (fun pcq36 => (Or.inr (Or.inr (Or.inl ⟨Int.le_antisymm (by omega) (by omega), Int.le_antisymm (by omega) (by omega), ⟨by omega, by omega⟩, Int.le_antisymm (by omega) (by omega), Int.le_antisymm (by omega) (by omega), ⟨by omega, by omega⟩, ⟨by omega, by omega⟩, ⟨by omega, by omega⟩, Int.le_antisymm (by omega) (by omega), by omega⟩)))) (fun pcq36 => (Or.inr (Or.inr (Or.inr ⟨Int.le_antisymm (by omega) (by omega), Int.le_antisymm (by omega) (by omega), ⟨by omega, by omega⟩, Int.le_antisymm (by omega) (by omega), Int.le_antisymm (by omega) (by omega), ⟨by omega, by omega⟩, by omega⟩))))))))))) (fun sq45 tq45 Isq45 Itq45 Gsq45 Gtq45   yq45_0 yq45_1 yq45_2 yq45_3 yq45_4 yq45_5 pcq45 lvq45 memq45 hlq45 hRq45 => ?_) _ _ (h_al_ok ⟨rfl, rfl, rfl, trivial⟩ hlw44) hRw44)
        · have Fsq45 := (Gsq45.mono (B := k_pl) rfl).tr Fsq36
          have Ftq45 := (Gtq45.mono (B := k_pm) rfl).tr Ftq36
          have Isq45 := Isq45
          have Itq45 := Itq45
          have Gsq45 := Gsq45
          have Gtq45 := Gtq45
          have esq45_6 : sq45 64 1 = σ1 64 1 := (Gsq45 64 1 rfl).trans esq36_6
          rcases pcq45 with pcq45 | pcq45
          · show h_T g_P (g_Y ns) 60 64 [(0, .ref 63)] [] sq45 _
            clear hz42
            refine h_vret rfl rfl (d_retn hlv21 ?_)
            refine h_goto (pc' := 150) rfl rfl ?_
            refine h_aload_n (pc' := 151) rfl rfl rfl ?_
            refine h_getI (pc' := 154) (v := sq45 63 2) rfl rfl rfl rfl rfl rfl (fun z46 hz46 => ?_)
            have tz46 := tf_63_2 Isq45
            refine h_zne (tg := 180) (pc' := 157) rfl rfl rfl hz46 (fun c47 => ?_) (fun c47 => absurd c47 (by omega))
            clear hz46
            refine d_toM (g_inj ns) hlq45 hRq45 (fun lvw48 memw48 hlw48 hRw48 => ?_)
            show h_T g_P (g_Y ns) 151 73 [(0, .ref 98)] [] tq45 _
            refine h_vret rfl rfl (d_retn hlv43 ?_)
            refine h_goto (pc' := 178) rfl rfl ?_
            refine h_vret rfl rfl (d_retn hlv39 ?_)
            refine h_aload_n (pc' := 146) rfl rfl rfl ?_
            refine h_getI (pc' := 149) (v := tq45 98 13) rfl rfl rfl rfl rfl rfl (fun z49 hz49 => ?_)
            have tz49 := tf_98_13 Itq45
            refine h_zne (tg := 165) (pc' := 152) rfl rfl rfl hz49 (fun c50 => ?_) (fun c50 => absurd c50 (by omega))
            clear hz49
            refine d_toL (g_inj ns) hlw48 hRw48 (fun lvw51 memw51 hlw51 hRw51 => ?_)
            show h_T g_P (g_Y ns) 56 180 [(0, .ref 63), (1, .int x1)] [] sq45 _
            exact h_wk [(0, .ref 63)] ⟨rfl, trivial⟩ (kx0 _ _ Isq45 Itq45 Fsq45 Ftq45 (Int.le_antisymm (by omega) (by omega)) (Int.le_antisymm (by omega) (by omega)) (Int.le_antisymm (by omega) (by omega)) (by omega) (by omega) (fun h => absurd h (by omega)) (Or.inl ⟨⟨by omega, by omega⟩, ⟨by omega, by omega⟩, Int.le_antisymm (by omega) (by omega), Int.le_antisymm (by omega) (by omega)⟩) _ _ (h_al_ok ⟨rfl, trivial⟩ hlw51) hRw51)
          · show h_T g_P (g_Y ns) 60 64 [(0, .ref 63)] [] sq45 _
            clear hz42
            refine h_vret rfl rfl (d_retn hlv21 ?_)
            refine h_goto (pc' := 150) rfl rfl ?_
            refine d_toM (g_inj ns) hlq45 hRq45 (fun lvw52 memw52 hlw52 hRw52 => ?_)
            show h_T g_P (g_Y ns) 151 73 [(0, .ref 98)] [] tq45 _
            refine h_vret rfl rfl (d_retn hlv43 ?_)
            refine h_goto (pc' := 178) rfl rfl ?_
            refine h_vret rfl rfl (d_retn hlv39 ?_)
            refine d_toL (g_inj ns) hlw52 hRw52 (fun lvw53 memw53 hlw53 hRw53 => ?_)
            show h_T g_P (g_Y ns) 56 150 [(0, .ref 63), (1, .int x1)] [] sq45 _
            refine h_wk [(0, .ref 63)] ⟨rfl, trivial⟩ (ls_sc Isq45 Itq45 (hTL.fr (Fsq45.mono rfl) (Ftq45.mono rfl))   (Int.le_antisymm (by omega) (by omega)) (Int.le_antisymm (by omega) (by omega)) (Int.le_antisymm (by omega) (by omega)) (by omega) (yq45_5) (pcq45.elim (fun pcq45 => (Or.inl ⟨Int.le_antisymm (by omega) (by omega), Int.le_antisymm (by omega) (by omega), Int.le_antisymm (by omega) (by omega), Int.le_antisymm (by omega) (by omega), Int.le_antisymm (by omega) (by omega)⟩)) (fun pcq45 => (pcq45.elim (fun pcq45 => (Or.inr (Or.inl ⟨Int.le_antisymm (by omega) (by omega), Int.le_antisymm (by omega) (by omega), Int.le_antisymm (by omega) (by omega), Int.le_antisymm (by omega) (by omega), by omega⟩))) (fun pcq45 => (pcq45.elim (fun pcq45 => (Or.inr (Or.inr (Or.inl ⟨Int.le_antisymm (by omega) (by omega), Int.le_antisymm (by omega) (by omega), Int.le_antisymm (by omega) (by omega), Int.le_antisymm (by omega) (by omega), ⟨by omega, by omega⟩, ⟨by omega, by omega⟩, Int.le_antisymm (by omega) (by omega), by omega⟩)))) (fun pcq45 => (Or.inr (Or.inr (Or.inr ⟨Int.le_antisymm (by omega) (by omega), Int.le_antisymm (by omega) (by omega), Int.le_antisymm (by omega) (by omega), Int.le_antisymm (by omega) (by omega), by omega⟩))))))))) (fun sq54 tq54 Isq54 Itq54 Gsq54 Gtq54   yq54_0 yq54_1 yq54_2 yq54_3 yq54_4 yq54_5 pcq54 lvq54 memq54 hlq54 hRq54 => ?_) _ _ (h_al_ok ⟨rfl, trivial⟩ hlw53) hRw53)
            · have Fsq54 := (Gsq54.mono (B := k_pl) rfl).tr Fsq45
              have Ftq54 := (Gtq54.mono (B := k_pm) rfl).tr Ftq45
              have Isq54 := Isq54
              have Itq54 := Itq54
              have Gsq54 := Gsq54
              have Gtq54 := Gtq54
              have esq54_6 : sq54 64 1 = σ1 64 1 := (Gsq54 64 1 rfl).trans esq45_6
              rcases pcq54 with pcq54 | pcq54
              · show h_T g_P (g_Y ns) 56 180 [(0, .ref 63)] [] sq54 _
                refine d_toM (g_inj ns) hlq54 hRq54 (fun lvw55 memw55 hlw55 hRw55 => ?_)
                show h_T g_P (g_Y ns) 154 165 [(0, .ref 98)] [] tq54 _
                refine d_toL (g_inj ns) hlw55 hRw55 (fun lvw56 memw56 hlw56 hRw56 => ?_)
                show h_T g_P (g_Y ns) 56 180 [(0, .ref 63)] [] sq54 _
                exact h_wk [(0, .ref 63)] ⟨rfl, trivial⟩ (kx0 _ _ Isq54 Itq54 Fsq54 Ftq54 (Int.le_antisymm (by omega) (by omega)) (Int.le_antisymm (by omega) (by omega)) (Int.le_antisymm (by omega) (by omega)) (by omega) (by omega) (fun h => absurd h (by omega)) (Or.inl ⟨⟨by omega, by omega⟩, ⟨by omega, by omega⟩, Int.le_antisymm (by omega) (by omega), Int.le_antisymm (by omega) (by omega)⟩) _ _ (h_al_ok ⟨rfl, trivial⟩ hlw56) hRw56)
              · show h_T g_P (g_Y ns) 56 180 [(0, .ref 63)] [] sq54 _
                refine d_toM (g_inj ns) hlq54 hRq54 (fun lvw57 memw57 hlw57 hRw57 => ?_)
                show h_T g_P (g_Y ns) 154 165 [(0, .ref 98)] [] tq54 _
                refine d_toL (g_inj ns) hlw57 hRw57 (fun lvw58 memw58 hlw58 hRw58 => ?_)
                show h_T g_P (g_Y ns) 56 180 [(0, .ref 63)] [] sq54 _
                exact h_wk [(0, .ref 63)] ⟨rfl, trivial⟩ (kx0 _ _ Isq54 Itq54 Fsq54 Ftq54 (Int.le_antisymm (by omega) (by omega)) (Int.le_antisymm (by omega) (by omega)) (Int.le_antisymm (by omega) (by omega)) (by omega) (by omega) (yq54_5) (Or.inr ⟨Int.le_antisymm (by omega) (by omega), Int.le_antisymm (by omega) (by omega), Int.le_antisymm (by omega) (by omega), Int.le_antisymm (by omega) (by omega), by omega, by omega⟩) _ _ (h_al_ok ⟨rfl, trivial⟩ hlw58) hRw58)
      · clear hz37
        refine d_toL (g_inj ns) hlw26 hRq36 (fun lvw59 memw59 hlw59 hRw59 => ?_)
        show h_T g_P (g_Y ns) 57 20 [(0, .ref 63), (1, .int (Int32.ofInt 0))] [] sq36 _
        refine h_vret rfl rfl (d_retn hlv24 ?_)
        refine h_aload_n (pc' := 9) rfl rfl rfl ?_
        refine h_iconst (pc' := 10) (x := (Int32.ofInt 5)) rfl rfl rfl ?_
        refine h_call (sp := false) (pc' := 13) (M := [(0, .ref 63), (1, .int (Int32.ofInt 5))]) rfl rfl rfl rfl rfl rfl rfl rfl ?_
        refine h_aload_n (pc' := 1) rfl rfl rfl ?_
        refine h_getI (pc' := 4) (v := sq36 63 2) rfl rfl rfl rfl rfl rfl (fun z60 hz60 => ?_)
        have tz60 := tf_63_2 Isq36
        refine h_zne (tg := 30) (pc' := 7) rfl rfl rfl hz60 (fun c61 => ?_) (fun c61 => absurd c61 (by omega))
        clear hz60
        refine h_aload_n (pc' := 31) rfl rfl rfl ?_
        refine h_getI (pc' := 34) (v := sq36 63 2) rfl rfl rfl rfl rfl rfl (fun z62 hz62 => ?_)
        refine h_zne (tg := 60) (pc' := 37) rfl rfl rfl hz62 (fun c63 => ?_) (fun c63 => absurd c63 (by omega))
        clear hz62
        refine h_aload_n (pc' := 61) rfl rfl rfl ?_
        refine h_getR (pc' := 64) rfl rfl rfl rfl rfl ?_
        refine h_getI (pc' := 67) (v := sq36 64 5) rfl rfl rfl rfl rfl rfl (fun z64 hz64 => ?_)
        have tz64 := tf_64_5 Isq36
        refine h_istore_n (pc' := 68) (M := [(2, .int z64), (0, .ref 63), (1, .int (Int32.ofInt 5))]) rfl rfl rfl rfl ?_
        refine h_aload_n (pc' := 69) rfl rfl rfl ?_
        refine h_call (sp := false) (pc' := 72) (M := [(0, .ref 63)]) rfl rfl rfl rfl rfl rfl rfl rfl ?_
        refine h_aload_n (pc' := 1) rfl rfl rfl ?_
        refine h_getI (pc' := 4) (v := sq36 63 2) rfl rfl rfl rfl rfl rfl (fun z65 hz65 => ?_)
        refine h_zne (tg := 37) (pc' := 7) rfl rfl rfl hz65 (fun c66 => ?_) (fun c66 => absurd c66 (by omega))
        clear hz65
        refine h_vret rfl rfl (h_Kn ?_)
        refine h_iload_n (pc' := 73) rfl rfl rfl ?_
        refine h_iret rfl rfl (h_Kv ?_)
        refine h_istore_n (pc' := 14) (M := [(2, .int z64), (0, .ref 63), (1, .ref 69)]) rfl rfl rfl rfl ?_
        refine h_aload_n (pc' := 15) rfl rfl rfl ?_
        refine h_call (sp := false) (pc' := 18) (M := [(0, .ref 63)]) rfl rfl rfl rfl rfl rfl rfl rfl ?_
        refine h_aload_n (pc' := 1) rfl rfl rfl ?_
        refine h_getI (pc' := 4) (v := sq36 63 2) rfl rfl rfl rfl rfl rfl (fun z67 hz67 => ?_)
        refine h_zne (tg := 22) (pc' := 7) rfl rfl rfl hz67 (fun c68 => ?_) (fun c68 => absurd c68 (by omega))
        clear hz67
        refine h_iconst (pc' := 23) (x := (Int32.ofInt 0)) rfl rfl rfl ?_
        refine h_zret rfl rfl ci_0 (by omega) (h_Kv ?_)
        refine h_zeq (tg := 44) (pc' := 21) rfl rfl rfl ci_0 (fun c69 => ?_) (fun c69 => absurd (Int.le_antisymm (by omega) (by omega)) c69)
        refine h_aload_n (pc' := 45) rfl rfl rfl ?_
        refine h_iconst (pc' := 46) (x := (Int32.ofInt 5)) rfl rfl rfl ?_
        refine h_call (sp := false) (pc' := 49) (M := [(0, .ref 63), (1, .int (Int32.ofInt 5))]) rfl rfl rfl rfl rfl rfl rfl rfl ?_
        refine h_aload_n (pc' := 1) rfl rfl rfl ?_
        refine h_getI (pc' := 4) (v := sq36 63 2) rfl rfl rfl rfl rfl rfl (fun z70 hz70 => ?_)
        refine h_zne (tg := 30) (pc' := 7) rfl rfl rfl hz70 (fun c71 => ?_) (fun c71 => absurd c71 (by omega))
        clear hz70
        refine h_aload_n (pc' := 31) rfl rfl rfl ?_
        refine h_getI (pc' := 34) (v := sq36 63 2) rfl rfl rfl rfl rfl rfl (fun z72 hz72 => ?_)
        refine h_zne (tg := 60) (pc' := 37) rfl rfl rfl hz72 (fun c73 => ?_) (fun c73 => absurd c73 (by omega))
        clear hz72
        refine h_aload_n (pc' := 61) rfl rfl rfl ?_
        refine h_getR (pc' := 64) rfl rfl rfl rfl rfl ?_
        refine h_getI (pc' := 67) (v := sq36 64 5) rfl rfl rfl rfl rfl rfl (fun z74 hz74 => ?_)
        refine h_istore_n (pc' := 68) (M := [(2, .int z74), (0, .ref 63), (1, .int (Int32.ofInt 5))]) rfl rfl rfl rfl ?_
        refine h_aload_n (pc' := 69) rfl rfl rfl ?_
        refine h_call (sp := false) (pc' := 72) (M := [(0, .ref 63)]) rfl rfl rfl rfl rfl rfl rfl rfl ?_
        refine h_aload_n (pc' := 1) rfl rfl rfl ?_
        refine h_getI (pc' := 4) (v := sq36 63 2) rfl rfl rfl rfl rfl rfl (fun z75 hz75 => ?_)
        refine h_zne (tg := 37) (pc' := 7) rfl rfl rfl hz75 (fun c76 => ?_) (fun c76 => absurd c76 (by omega))
        clear hz75
        refine h_vret rfl rfl (h_Kn ?_)
        refine h_iload_n (pc' := 73) rfl rfl rfl ?_
        refine h_iret rfl rfl (h_Kv ?_)
        refine h_istore_n (pc' := 50) (M := [(3, .int z74), (2, .int z64), (0, .ref 63), (1, .ref 69)]) rfl rfl rfl rfl ?_
        refine h_aload_n (pc' := 51) rfl rfl rfl ?_
        refine h_getI (pc' := 54) (v := sq36 63 2) rfl rfl rfl rfl rfl rfl (fun z77 hz77 => ?_)
        refine h_zne (tg := 64) (pc' := 57) rfl rfl rfl hz77 (fun c78 => ?_) (fun c78 => absurd c78 (by omega))
        clear hz77
        refine h_vret rfl rfl (d_retn hlv21 ?_)
        clear hz64 hz74
        refine h_goto (pc' := 150) rfl rfl ?_
        refine h_aload_n (pc' := 151) rfl rfl rfl ?_
        refine h_getI (pc' := 154) (v := sq36 63 2) rfl rfl rfl rfl rfl rfl (fun z79 hz79 => ?_)
        refine h_zne (tg := 180) (pc' := 157) rfl rfl rfl hz79 (fun c80 => ?_) (fun c80 => absurd c80 (by omega))
        clear hz79
        exact h_wk [(0, .ref 63)] ⟨rfl, trivial⟩ (kx1 _ _ Isq36 Itq36 Fsq36 Ftq36 (Int.le_antisymm (by omega) (by omega)) (Int.le_antisymm (by omega) (by omega)) (Int.le_antisymm (by omega) (by omega)) (by omega) (by omega) (pcq36.elim (fun pcq36 => ⟨⟨by omega, by omega⟩, ⟨by omega, by omega⟩, Int.le_antisymm (by omega) (by omega), Int.le_antisymm (by omega) (by omega)⟩) (fun pcq36 => (pcq36.elim (fun pcq36 => (by exfalso; omega)) (fun pcq36 => (pcq36.elim (fun pcq36 => (by exfalso; omega)) (fun pcq36 => (pcq36.elim (fun pcq36 => (by exfalso; omega)) (fun pcq36 => (by exfalso; omega))))))))) _ _ (h_al_ok ⟨rfl, trivial⟩ hlw59) hRw59)
    · clear hz22
      refine h_iconst (pc' := 9) (x := (Int32.ofInt 1)) rfl rfl rfl ?_
      refine h_goto (pc' := 13) rfl rfl ?_
      refine h_zret rfl rfl ci_1 (by omega) (h_Kv ?_)
      refine d_call (g_inj ns) (pc' := 8) (m := 57) (M := [(0, .ref 63), (1, .int (Int32.ofInt 1))]) (rest := []) ⟨false, _, _, _, _, _, _, rfl, rfl, rfl, rfl, rfl, rfl, rfl⟩ (fun lv81 hlv81 => ?_)
      refine h_iload_n (pc' := 1) rfl rfl rfl ?_
      refine h_zeq (tg := 16) (pc' := 4) rfl rfl rfl ci_1 (fun c82 => absurd c82 (by omega)) (fun c82 => ?_)
      refine h_aload_n (pc' := 5) rfl rfl rfl ?_
      refine h_iconst (pc' := 6) (x := (Int32.ofInt 5)) rfl rfl rfl ?_
      refine h_aload_n (pc' := 7) rfl rfl rfl ?_
      refine h_getR (pc' := 10) rfl rfl rfl rfl rfl ?_
      refine h_getI (pc' := 13) (v := σ1 64 4) rfl rfl rfl rfl rfl rfl (fun z83 hz83 => ?_)
      have tz83 := tf_64_4 hI1
      refine h_call (sp := false) (pc' := 16) (M := [(0, .ref 63), (1, .int (Int32.ofInt 5)), (2, .int z83)]) rfl rfl rfl rfl rfl rfl rfl rfl ?_
      refine h_aload_n (pc' := 1) rfl rfl rfl ?_
      refine h_getI (pc' := 4) (v := σ1 63 2) rfl rfl rfl rfl rfl rfl (fun z84 hz84 => ?_)
      have tz84 := tf_63_2 hI1
      refine h_zne (tg := 17) (pc' := 7) rfl rfl rfl hz84 (fun c85 => absurd (Int.le_antisymm (by omega) (by omega)) c85) (fun c85 => ?_)
      clear hz84
      refine h_aload_n (pc' := 8) rfl rfl rfl ?_
      refine h_iload_n (pc' := 9) rfl rfl rfl ?_
      refine h_put (pc' := 12) rfl rfl rfl rfl rfl rfl ci_5 rfl (h_fgt (E := fun s => s 64 2 = σ1 64 2 ∧ s 64 4 = σ1 64 4 ∧ s 64 3 = σ1 64 3 ∧ s 64 5 = σ1 64 5 ∧ s 63 2 = 5 ∧ s 63 3 = σ1 63 3 ∧ s 64 1 = σ1 64 1 ∧ s 66 8 = σ1 66 8 ∧ s 66 9 = σ1 66 9 ∧ s 66 10 = σ1 66 10 ∧ s 69 2 = σ1 69 2 ∧ s 72 2 = σ1 72 2 ∧ s 63 5 = σ1 63 5 ∧ s = h_up σ1 63 2 5) _ (if_63_2 hI1 (by omega)) (F1.up rfl) ⟨rfl, rfl, rfl, rfl, rfl, rfl, rfl, rfl, rfl, rfl, rfl, rfl, rfl, rfl⟩ (fun s86 Is86 Fs86 (es86 : s86 64 2 = σ1 64 2 ∧ s86 64 4 = σ1 64 4 ∧ s86 64 3 = σ1 64 3 ∧ s86 64 5 = σ1 64 5 ∧ s86 63 2 = 5 ∧ s86 63 3 = σ1 63 3 ∧ s86 64 1 = σ1 64 1 ∧ s86 66 8 = σ1 66 8 ∧ s86 66 9 = σ1 66 9 ∧ s86 66 10 = σ1 66 10 ∧ s86 69 2 = σ1 69 2 ∧ s86 72 2 = σ1 72 2 ∧ s86 63 5 = σ1 63 5 ∧ s86 = h_up σ1 63 2 5) => ?_))
      have us86 := es86.2.2.2.2.2.2.2.2.2.2.2.2.2
      refine h_aload_n (pc' := 13) rfl rfl rfl ?_
      refine h_iload_n (pc' := 14) rfl rfl rfl ?_
      refine h_put (pc' := 17) rfl rfl rfl rfl rfl rfl hz83 rfl (h_fgt (E := fun s => s 64 2 = σ1 64 2 ∧ s 64 4 = σ1 64 4 ∧ s 64 3 = σ1 64 3 ∧ s 64 5 = σ1 64 5 ∧ s 63 2 = 5 ∧ s 63 3 = (σ1 64 4) ∧ s 64 1 = σ1 64 1 ∧ s 66 8 = σ1 66 8 ∧ s 66 9 = σ1 66 9 ∧ s 66 10 = σ1 66 10 ∧ s 69 2 = σ1 69 2 ∧ s 72 2 = σ1 72 2 ∧ s 63 5 = σ1 63 5 ∧ s = h_up s86 63 3 (σ1 64 4)) _ (if_63_3 Is86 (h_rgv hz83)) (Fs86.up rfl) ⟨es86.1, es86.2.1, es86.2.2.1, es86.2.2.2.1, es86.2.2.2.2.1, rfl, es86.2.2.2.2.2.2.1, es86.2.2.2.2.2.2.2.1, es86.2.2.2.2.2.2.2.2.1, es86.2.2.2.2.2.2.2.2.2.1, es86.2.2.2.2.2.2.2.2.2.2.1, es86.2.2.2.2.2.2.2.2.2.2.2.1, es86.2.2.2.2.2.2.2.2.2.2.2.2.1, rfl⟩ (fun s87 Is87 Fs87 (es87 : s87 64 2 = σ1 64 2 ∧ s87 64 4 = σ1 64 4 ∧ s87 64 3 = σ1 64 3 ∧ s87 64 5 = σ1 64 5 ∧ s87 63 2 = 5 ∧ s87 63 3 = (σ1 64 4) ∧ s87 64 1 = σ1 64 1 ∧ s87 66 8 = σ1 66 8 ∧ s87 66 9 = σ1 66 9 ∧ s87 66 10 = σ1 66 10 ∧ s87 69 2 = σ1 69 2 ∧ s87 72 2 = σ1 72 2 ∧ s87 63 5 = σ1 63 5 ∧ s87 = h_up s86 63 3 (σ1 64 4)) => ?_))
      clear es86
      have us87 := es87.2.2.2.2.2.2.2.2.2.2.2.2.2
      refine h_vret rfl rfl (h_Kn ?_)
      refine h_aload_n (pc' := 17) rfl rfl rfl ?_
      refine h_call (sp := false) (pc' := 20) (M := [(0, .ref 63)]) rfl rfl rfl rfl rfl rfl rfl rfl ?_
      refine h_aload_n (pc' := 1) rfl rfl rfl ?_
      refine h_getI (pc' := 4) (v := 5) rfl rfl rfl rfl rfl es87.2.2.2.2.1 (fun z88 hz88 => ?_)
      refine h_zne (tg := 37) (pc' := 7) rfl rfl rfl hz88 (fun c89 => ?_) (fun c89 => absurd c89 (by omega))
      clear hz88
      refine h_vret rfl rfl (h_Kn ?_)
      refine h_vret rfl rfl (d_retn hlv81 ?_)
      refine h_aload_n (pc' := 9) rfl rfl rfl ?_
      refine h_iconst (pc' := 10) (x := (Int32.ofInt 5)) rfl rfl rfl ?_
      refine h_call (sp := false) (pc' := 13) (M := [(0, .ref 63), (1, .int (Int32.ofInt 5))]) rfl rfl rfl rfl rfl rfl rfl rfl ?_
      refine h_aload_n (pc' := 1) rfl rfl rfl ?_
      refine h_getI (pc' := 4) (v := 5) rfl rfl rfl rfl rfl es87.2.2.2.2.1 (fun z90 hz90 => ?_)
      refine h_zne (tg := 30) (pc' := 7) rfl rfl rfl hz90 (fun c91 => ?_) (fun c91 => absurd c91 (by omega))
      clear hz90
      refine h_aload_n (pc' := 31) rfl rfl rfl ?_
      refine h_getI (pc' := 34) (v := 5) rfl rfl rfl rfl rfl es87.2.2.2.2.1 (fun z92 hz92 => ?_)
      refine h_zne (tg := 60) (pc' := 37) rfl rfl rfl hz92 (fun c93 => ?_) (fun c93 => absurd c93 (by omega))
      clear hz92
      refine h_aload_n (pc' := 61) rfl rfl rfl ?_
      refine h_getR (pc' := 64) rfl rfl rfl rfl rfl ?_
      refine h_getI (pc' := 67) (v := σ1 64 5) rfl rfl rfl rfl rfl es87.2.2.2.1 (fun z94 hz94 => ?_)
      have tz94 := tf_64_5 hI1
      refine h_istore_n (pc' := 68) (M := [(2, .int z94), (0, .ref 63), (1, .int (Int32.ofInt 5))]) rfl rfl rfl rfl ?_
      refine h_aload_n (pc' := 69) rfl rfl rfl ?_
      refine h_call (sp := false) (pc' := 72) (M := [(0, .ref 63)]) rfl rfl rfl rfl rfl rfl rfl rfl ?_
      refine h_aload_n (pc' := 1) rfl rfl rfl ?_
      refine h_getI (pc' := 4) (v := 5) rfl rfl rfl rfl rfl es87.2.2.2.2.1 (fun z95 hz95 => ?_)
      refine h_zne (tg := 37) (pc' := 7) rfl rfl rfl hz95 (fun c96 => ?_) (fun c96 => absurd c96 (by omega))
      clear hz95
      refine h_vret rfl rfl (h_Kn ?_)
      refine h_iload_n (pc' := 73) rfl rfl rfl ?_
      refine h_iret rfl rfl (h_Kv ?_)
      refine h_istore_n (pc' := 14) (M := [(2, .int z94), (0, .ref 63), (1, .ref 69)]) rfl rfl rfl rfl ?_
      refine h_aload_n (pc' := 15) rfl rfl rfl ?_
      refine h_call (sp := false) (pc' := 18) (M := [(0, .ref 63)]) rfl rfl rfl rfl rfl rfl rfl rfl ?_
      refine h_aload_n (pc' := 1) rfl rfl rfl ?_
      refine h_getI (pc' := 4) (v := 5) rfl rfl rfl rfl rfl es87.2.2.2.2.1 (fun z97 hz97 => ?_)
      refine h_zne (tg := 22) (pc' := 7) rfl rfl rfl hz97 (fun c98 => ?_) (fun c98 => absurd c98 (by omega))
      clear hz97
      refine h_iconst (pc' := 23) (x := (Int32.ofInt 0)) rfl rfl rfl ?_
      refine h_zret rfl rfl ci_0 (by omega) (h_Kv ?_)
      refine h_zeq (tg := 44) (pc' := 21) rfl rfl rfl ci_0 (fun c99 => ?_) (fun c99 => absurd (Int.le_antisymm (by omega) (by omega)) c99)
      refine h_aload_n (pc' := 45) rfl rfl rfl ?_
      refine h_iconst (pc' := 46) (x := (Int32.ofInt 5)) rfl rfl rfl ?_
      refine h_call (sp := false) (pc' := 49) (M := [(0, .ref 63), (1, .int (Int32.ofInt 5))]) rfl rfl rfl rfl rfl rfl rfl rfl ?_
      refine h_aload_n (pc' := 1) rfl rfl rfl ?_
      refine h_getI (pc' := 4) (v := 5) rfl rfl rfl rfl rfl es87.2.2.2.2.1 (fun z100 hz100 => ?_)
      refine h_zne (tg := 30) (pc' := 7) rfl rfl rfl hz100 (fun c101 => ?_) (fun c101 => absurd c101 (by omega))
      clear hz100
      refine h_aload_n (pc' := 31) rfl rfl rfl ?_
      refine h_getI (pc' := 34) (v := 5) rfl rfl rfl rfl rfl es87.2.2.2.2.1 (fun z102 hz102 => ?_)
      refine h_zne (tg := 60) (pc' := 37) rfl rfl rfl hz102 (fun c103 => ?_) (fun c103 => absurd c103 (by omega))
      clear hz102
      refine h_aload_n (pc' := 61) rfl rfl rfl ?_
      refine h_getR (pc' := 64) rfl rfl rfl rfl rfl ?_
      refine h_getI (pc' := 67) (v := σ1 64 5) rfl rfl rfl rfl rfl es87.2.2.2.1 (fun z104 hz104 => ?_)
      refine h_istore_n (pc' := 68) (M := [(2, .int z104), (0, .ref 63), (1, .int (Int32.ofInt 5))]) rfl rfl rfl rfl ?_
      refine h_aload_n (pc' := 69) rfl rfl rfl ?_
      refine h_call (sp := false) (pc' := 72) (M := [(0, .ref 63)]) rfl rfl rfl rfl rfl rfl rfl rfl ?_
      refine h_aload_n (pc' := 1) rfl rfl rfl ?_
      refine h_getI (pc' := 4) (v := 5) rfl rfl rfl rfl rfl es87.2.2.2.2.1 (fun z105 hz105 => ?_)
      refine h_zne (tg := 37) (pc' := 7) rfl rfl rfl hz105 (fun c106 => ?_) (fun c106 => absurd c106 (by omega))
      clear hz105
      refine h_vret rfl rfl (h_Kn ?_)
      refine h_iload_n (pc' := 73) rfl rfl rfl ?_
      refine h_iret rfl rfl (h_Kv ?_)
      refine h_istore_n (pc' := 50) (M := [(3, .int z104), (2, .int z94), (0, .ref 63), (1, .ref 69)]) rfl rfl rfl rfl ?_
      refine h_aload_n (pc' := 51) rfl rfl rfl ?_
      refine h_getI (pc' := 54) (v := 5) rfl rfl rfl rfl rfl es87.2.2.2.2.1 (fun z107 hz107 => ?_)
      refine h_zne (tg := 64) (pc' := 57) rfl rfl rfl hz107 (fun c108 => ?_) (fun c108 => absurd c108 (by omega))
      clear hz107
      refine h_vret rfl rfl (d_retn hlv21 ?_)
      clear hz104 hz94
      refine h_goto (pc' := 150) rfl rfl ?_
      refine h_aload_n (pc' := 151) rfl rfl rfl ?_
      refine h_getI (pc' := 154) (v := 5) rfl rfl rfl rfl rfl es87.2.2.2.2.1 (fun z109 hz109 => ?_)
      refine h_zne (tg := 180) (pc' := 157) rfl rfl rfl hz109 (fun c110 => ?_) (fun c110 => absurd c110 (by omega))
      clear hz109
      refine d_toM (g_inj ns) hl2 hR2 (fun lvw111 memw111 hlw111 hRw111 => ?_)
      show h_T g_P (g_Y ns) 154 23 [(0, .ref 98), (1, .int y1)] [] σ2 _
      refine h_iload_n (pc' := 24) rfl rfl rfl ?_
      refine h_iconst (pc' := 25) (x := (Int32.ofInt 3)) rfl rfl rfl ?_
      refine h_cgt (tg := 37) (pc' := 28) rfl rfl rfl hy1 ci_3 (fun c112 => ?_) (fun c112 => absurd c112 (by omega))
      refine h_iload_n (pc' := 38) rfl rfl rfl ?_
      refine h_iconst (pc' := 39) (x := (Int32.ofInt 4)) rfl rfl rfl ?_
      refine h_cne (tg := 53) (pc' := 42) rfl rfl rfl hy1 ci_4 (fun c113 => absurd (Int.le_antisymm (by omega) (by omega)) c113) (fun c113 => ?_)
      refine h_aload_n (pc' := 43) rfl rfl rfl ?_
      refine h_getR (pc' := 46) rfl rfl rfl rfl rfl ?_
      refine h_bipush (pc' := 48) (x := (Int32.ofInt 18)) rfl rfl cb_18 ?_
      refine h_iald (pc' := 49) (v := σ2 101 18) rfl rfl rfl ci_18 (by omega) (by omega) rfl (fun z114 hz114 => ?_)
      have tz114 := ty_101_3 hI2 18 (by omega)
      refine h_iconst (pc' := 50) (x := (Int32.ofInt 3)) rfl rfl rfl ?_
      refine h_ceq (tg := 83) (pc' := 53) rfl rfl rfl hz114 ci_3 (fun c115 => ?_) (fun c115 => absurd (Int.le_antisymm (by omega) (by omega)) c115)
      clear hz114
      refine h_aload_n (pc' := 84) rfl rfl rfl ?_
      refine h_iconst (pc' := 85) (x := (Int32.ofInt 5)) rfl rfl rfl ?_
      refine h_call (sp := false) (pc' := 88) (M := [(0, .ref 98), (1, .int (Int32.ofInt 5))]) rfl rfl rfl rfl rfl rfl rfl rfl ?_
      refine h_aload_n (pc' := 1) rfl rfl rfl ?_
      refine h_getI (pc' := 4) (v := σ2 98 13) rfl rfl rfl rfl rfl rfl (fun z116 hz116 => ?_)
      have tz116 := tf_98_13 hI2
      refine h_zne (tg := 20) (pc' := 7) rfl rfl rfl hz116 (fun c117 => absurd (Int.le_antisymm (by omega) (by omega)) c117) (fun c117 => ?_)
      clear hz116
      refine h_aload_n (pc' := 8) rfl rfl rfl ?_
      refine h_iload_n (pc' := 9) rfl rfl rfl ?_
      refine h_put (pc' := 12) rfl rfl rfl rfl rfl rfl ci_5 rfl (h_fgt (E := fun s => s 98 15 = σ2 98 15 ∧ s 98 16 = σ2 98 16 ∧ s 98 17 = σ2 98 17 ∧ s 98 18 = σ2 98 18 ∧ s 98 13 = 5 ∧ s 98 14 = σ2 98 14 ∧ s 98 5 = σ2 98 5 ∧ s 98 6 = σ2 98 6 ∧ s 98 7 = σ2 98 7 ∧ s 98 8 = σ2 98 8 ∧ s 98 9 = σ2 98 9 ∧ s 101 18 = σ2 101 18 ∧ s 101 25 = σ2 101 25 ∧ s 101 43 = σ2 101 43 ∧ s = h_up σ2 98 13 5) _ (if_98_13 hI2 (by omega)) (F2.up rfl) ⟨rfl, rfl, rfl, rfl, rfl, rfl, rfl, rfl, rfl, rfl, rfl, rfl, rfl, rfl, rfl⟩ (fun s118 Is118 Fs118 (es118 : s118 98 15 = σ2 98 15 ∧ s118 98 16 = σ2 98 16 ∧ s118 98 17 = σ2 98 17 ∧ s118 98 18 = σ2 98 18 ∧ s118 98 13 = 5 ∧ s118 98 14 = σ2 98 14 ∧ s118 98 5 = σ2 98 5 ∧ s118 98 6 = σ2 98 6 ∧ s118 98 7 = σ2 98 7 ∧ s118 98 8 = σ2 98 8 ∧ s118 98 9 = σ2 98 9 ∧ s118 101 18 = σ2 101 18 ∧ s118 101 25 = σ2 101 25 ∧ s118 101 43 = σ2 101 43 ∧ s118 = h_up σ2 98 13 5) => ?_))
      have us118 := es118.2.2.2.2.2.2.2.2.2.2.2.2.2.2
      refine h_aload_n (pc' := 13) rfl rfl rfl ?_
      refine h_aload_n (pc' := 14) rfl rfl rfl ?_
      refine h_getI (pc' := 17) (v := σ2 98 16) rfl rfl rfl rfl rfl es118.2.1 (fun z119 hz119 => ?_)
      have tz119 := tf_98_16 hI2
      refine h_put (pc' := 20) rfl rfl rfl rfl rfl rfl hz119 rfl (h_fgt (E := fun s => s 98 15 = σ2 98 15 ∧ s 98 16 = σ2 98 16 ∧ s 98 17 = σ2 98 17 ∧ s 98 18 = σ2 98 18 ∧ s 98 13 = 5 ∧ s 98 14 = (σ2 98 16) ∧ s 98 5 = σ2 98 5 ∧ s 98 6 = σ2 98 6 ∧ s 98 7 = σ2 98 7 ∧ s 98 8 = σ2 98 8 ∧ s 98 9 = σ2 98 9 ∧ s 101 18 = σ2 101 18 ∧ s 101 25 = σ2 101 25 ∧ s 101 43 = σ2 101 43 ∧ s = h_up s118 98 14 (σ2 98 16)) _ (if_98_14 Is118 (h_rgv hz119)) (Fs118.up rfl) ⟨es118.1, es118.2.1, es118.2.2.1, es118.2.2.2.1, es118.2.2.2.2.1, rfl, es118.2.2.2.2.2.2.1, es118.2.2.2.2.2.2.2.1, es118.2.2.2.2.2.2.2.2.1, es118.2.2.2.2.2.2.2.2.2.1, es118.2.2.2.2.2.2.2.2.2.2.1, es118.2.2.2.2.2.2.2.2.2.2.2.1, es118.2.2.2.2.2.2.2.2.2.2.2.2.1, es118.2.2.2.2.2.2.2.2.2.2.2.2.2.1, rfl⟩ (fun s120 Is120 Fs120 (es120 : s120 98 15 = σ2 98 15 ∧ s120 98 16 = σ2 98 16 ∧ s120 98 17 = σ2 98 17 ∧ s120 98 18 = σ2 98 18 ∧ s120 98 13 = 5 ∧ s120 98 14 = (σ2 98 16) ∧ s120 98 5 = σ2 98 5 ∧ s120 98 6 = σ2 98 6 ∧ s120 98 7 = σ2 98 7 ∧ s120 98 8 = σ2 98 8 ∧ s120 98 9 = σ2 98 9 ∧ s120 101 18 = σ2 101 18 ∧ s120 101 25 = σ2 101 25 ∧ s120 101 43 = σ2 101 43 ∧ s120 = h_up s118 98 14 (σ2 98 16)) => ?_))
      clear es118
      have us120 := es120.2.2.2.2.2.2.2.2.2.2.2.2.2.2
      refine h_vret rfl rfl (h_Kn ?_)
      refine h_iload_n (pc' := 89) rfl rfl rfl ?_
      refine h_bipush (pc' := 91) (x := (Int32.ofInt 7)) rfl rfl cb_7 ?_
      refine h_cne (tg := 106) (pc' := 94) rfl rfl rfl hy1 ci_7 (fun c121 => ?_) (fun c121 => absurd c121 (by omega))
      have uH122 := tf_98_7 Is120
      refine h_wk [(0, .ref 98), (1, .int y1)] ⟨rfl, rfl, trivial⟩ (lm_pt _ Is120 y1 _ hy1 (by omega) (fun H122 hH122 => (h_fgt (E := fun s => s 98 15 = σ2 98 15 ∧ s 98 16 = σ2 98 16 ∧ s 98 17 = σ2 98 17 ∧ s 98 18 = σ2 98 18 ∧ s 98 13 = 5 ∧ s 98 14 = (σ2 98 16) ∧ s 98 5 = σ2 98 5 ∧ s 98 6 = σ2 98 6 ∧ s 98 7 = H122 ∧ s 98 8 = σ2 98 8 ∧ s 98 9 = σ2 98 9 ∧ s 101 18 = σ2 101 18 ∧ s 101 25 = σ2 101 25 ∧ s 101 43 = σ2 101 43 ∧ s = h_up s120 98 7 H122) _ (if_98_7 Is120 (by omega)) (Fs120.up rfl) ⟨es120.1, es120.2.1, es120.2.2.1, es120.2.2.2.1, es120.2.2.2.2.1, es120.2.2.2.2.2.1, es120.2.2.2.2.2.2.1, es120.2.2.2.2.2.2.2.1, rfl, es120.2.2.2.2.2.2.2.2.2.1, es120.2.2.2.2.2.2.2.2.2.2.1, es120.2.2.2.2.2.2.2.2.2.2.2.1, es120.2.2.2.2.2.2.2.2.2.2.2.2.1, es120.2.2.2.2.2.2.2.2.2.2.2.2.2.1, rfl⟩ (fun s123 Is123 Fs123 (es123 : s123 98 15 = σ2 98 15 ∧ s123 98 16 = σ2 98 16 ∧ s123 98 17 = σ2 98 17 ∧ s123 98 18 = σ2 98 18 ∧ s123 98 13 = 5 ∧ s123 98 14 = (σ2 98 16) ∧ s123 98 5 = σ2 98 5 ∧ s123 98 6 = σ2 98 6 ∧ s123 98 7 = H122 ∧ s123 98 8 = σ2 98 8 ∧ s123 98 9 = σ2 98 9 ∧ s123 101 18 = σ2 101 18 ∧ s123 101 25 = σ2 101 25 ∧ s123 101 43 = σ2 101 43 ∧ s123 = h_up s120 98 7 H122) => ?_))))
      clear es120
      have us123 := es123.2.2.2.2.2.2.2.2.2.2.2.2.2.2
      refine h_aload_n (pc' := 129) rfl rfl rfl ?_
      refine h_call (sp := false) (pc' := 132) (M := [(0, .ref 98)]) rfl rfl rfl rfl rfl rfl rfl rfl ?_
      refine h_aload_n (pc' := 1) rfl rfl rfl ?_
      refine h_getI (pc' := 4) (v := 5) rfl rfl rfl rfl rfl es123.2.2.2.2.1 (fun z124 hz124 => ?_)
      refine h_zle (tg := 8) (pc' := 7) rfl rfl rfl hz124 (fun c125 => absurd c125 (by omega)) (fun c125 => ?_)
      clear hz124
      refine h_vret rfl rfl (h_Kn ?_)
      refine h_aload_n (pc' := 133) rfl rfl rfl ?_
      refine h_getI (pc' := 136) (v := 5) rfl rfl rfl rfl rfl es123.2.2.2.2.1 (fun z126 hz126 => ?_)
      refine h_zle (tg := 140) (pc' := 139) rfl rfl rfl hz126 (fun c127 => absurd c127 (by omega)) (fun c127 => ?_)
      clear hz126
      refine d_toL (g_inj ns) hlw111 hRw111 (fun lvw128 memw128 hlw128 hRw128 => ?_)
      show h_T g_P (g_Y ns) 56 180 [(0, .ref 63), (1, .int x1)] [] s87 _
      exact h_wk [(0, .ref 63)] ⟨rfl, trivial⟩ (kx1 _ _ Is87 Is123 Fs87 Fs123 (Int.le_antisymm (by omega) (by omega)) (Int.le_antisymm (by omega) (by omega)) (Int.le_antisymm (by omega) (by omega)) (by omega) (by omega) ⟨⟨by omega, by omega⟩, ⟨by omega, by omega⟩, Int.le_antisymm (by omega) (by omega), Int.le_antisymm (by omega) (by omega)⟩ _ _ (h_al_ok ⟨rfl, trivial⟩ hlw128) hRw128)
