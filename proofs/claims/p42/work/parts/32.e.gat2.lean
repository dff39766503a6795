set_option maxHeartbeats 100000000 in
theorem ls_gat {ns : Nat} {σ1 σ2 : h_S} (hI1 : h_I σ1) (hI2 : h_I σ2) (hTL : d_tape σ1 σ2) (x1 : Int32) (a1 : Int) (hx1 : x1.toInt = a1) (y1 : Int32) (c1 : Int) (hy1 : y1.toInt = c1) (pr0 : σ1 64 2 = σ2 98 15) (pr1 : σ1 64 4 = σ2 98 16) (pr2 : σ1 63 2 = σ2 98 13) (pr3 : σ1 66 8 = σ2 98 5) (pr4 : σ1 66 9 = σ2 98 6) (pr5 : σ1 66 10 = σ2 101 43) (pr6 : σ1 69 2 = σ2 101 18) (pr7 : σ1 72 2 = σ2 101 25) (pr8 : σ1 63 5 = σ2 98 7) (pr9 : σ1 64 2 ≤ σ1 64 1) (pr10 : d_RD σ1 σ2) (pr11 : a1 = c1) (pr12 : a1 = 6) (pc0 : ((σ1 63 2 = 0) ∧ (σ2 98 13 = 0))) {cs1 cs2 : List d_Fr} {Q : d_Q} (kx0 : ∀ (s t : h_S), h_I s → h_I t → h_F (k_in k_pl) s σ1 → h_F (k_in k_pm) t σ2 → (s 64 2 = t 98 15) → (s 64 4 = t 98 16) → (s 63 2 = t 98 13) → (s 64 2 ≤ s 64 1) → (σ1 64 2 ≤ s 64 2) → (d_ok s t) → (((1 ≤ s 63 2 ∧ s 63 2 ≤ 6) ∧ (1 ≤ t 98 13 ∧ t 98 13 ≤ 6) ∧ (s 63 2 = t 98 13) ∧ (s 63 3 = t 98 14)) ∨ ((s 63 2 = 0) ∧ (s 64 3 = 3) ∧ (t 98 13 = 0) ∧ (t 98 17 = 3) ∧ (s 64 4 < s 64 2) ∧ (σ1 64 2 < s 64 2))) → ∀ lv2 mem2, h_loc [(0, .ref 98)] lv2 → h_R (g_Y ns) t mem2 → h_T g_P (g_Y ns) 56 180 [(0, .ref 63)] [] s (d_cs g_P (g_Y ns) cs1 (d_L g_P (g_Y ns) (154, 165, lv2, []) cs2 mem2 Q))) (kx1 : ∀ (s t : h_S), h_I s → h_I t → h_F (k_in k_pl) s σ1 → h_F (k_in k_pm) t σ2 → (s 64 2 = t 98 15) → (s 64 4 = t 98 16) → (s 63 2 = t 98 13) → (s 64 2 ≤ s 64 1) → (σ1 64 2 ≤ s 64 2) → (((1 ≤ s 63 2 ∧ s 63 2 ≤ 6) ∧ (1 ≤ t 98 13 ∧ t 98 13 ≤ 6) ∧ (s 63 2 = t 98 13) ∧ (s 63 3 = t 98 14))) → ∀ lv2 mem2, h_loc [(0, .ref 98)] lv2 → h_R (g_Y ns) t mem2 → h_T g_P (g_Y ns) 56 180 [(0, .ref 63)] [] s (d_cs g_P (g_Y ns) cs1 (d_L g_P (g_Y ns) (154, 139, lv2, []) cs2 mem2 Q))) : ∀ lv2 mem2, h_loc [(0, .ref 98), (1, .int y1)] lv2 → h_R (g_Y ns) σ2 mem2 → h_T g_P (g_Y ns) 56 116 [(0, .ref 63), (1, .int x1)] [] σ1 (d_cs g_P (g_Y ns) cs1 (d_L g_P (g_Y ns) (154, 23, lv2, []) cs2 mem2 Q)) := by
  intro lv2 mem2 hl2 hR2
  have hT := hTL.1
  have hL := hTL.2
  have F1 : h_F (k_in k_pl) σ1 σ1 := h_F.rf
  have F2 : h_F (k_in k_pm) σ2 σ2 := h_F.rf
  have ge0 := tf_64_1 hI1
  have ge1 := tf_66_8 hI1
  have ge2 := tf_66_9 hI1
  have ge3 := tf_66_10 hI1
  have ge4 := tf_69_2 hI1
  have ge5 := tf_72_2 hI1
  have ge6 := tf_63_5 hI1
  have ge7 := tf_63_2 hI1
  have ge8 := tf_98_8 hI2
  have ge9 := tf_98_9 hI2
  have ge10 := tf_98_13 hI2
  rcases pc0 with pc0
  · show h_T g_P (g_Y ns) 56 116 [(0, .ref 63), (1, .int x1)] [] σ1 _
    refine h_aload_n (pc' := 117) rfl rfl rfl ?_
    refine d_call (g_inj ns) (pc' := 120) (m := 61) (M := [(0, .ref 63)]) (rest := []) ⟨false, _, _, _, _, _, _, rfl, rfl, rfl, rfl, rfl, rfl, rfl⟩ (fun lv21 hlv21 => ?_)
    refine h_aload_n (pc' := 1) rfl rfl rfl ?_
    refine h_aload_n (pc' := 2) rfl rfl rfl ?_
    refine h_getR (pc' := 5) rfl rfl rfl rfl rfl ?_
    refine h_getI (pc' := 8) (v := σ1 66 9) rfl rfl rfl rfl rfl rfl (fun z22 hz22 => ?_)
    have tz22 := tf_66_9 hI1
    refine h_iconst (pc' := 9) (x := (Int32.ofInt 3)) rfl rfl rfl ?_
    refine h_clt (tg := 16) (pc' := 12) rfl rfl rfl hz22 ci_3 (fun c23 => ?_) (fun c23 => ?_)
    · clear hz22
      refine h_iconst (pc' := 17) (x := (Int32.ofInt 0)) rfl rfl rfl ?_
      refine d_call (g_inj ns) (pc' := 20) (m := 57) (M := [(0, .ref 63), (1, .int (Int32.ofInt 0))]) (rest := []) ⟨false, _, _, _, _, _, _, rfl, rfl, rfl, rfl, rfl, rfl, rfl⟩ (fun lv24 hlv24 => ?_)
      refine h_iload_n (pc' := 1) rfl rfl rfl ?_
      refine h_zeq (tg := 16) (pc' := 4) rfl rfl rfl ci_0 (fun c25 => ?_) (fun c25 => absurd (Int.le_antisymm (by omega) (by omega)) c25)
      refine h_aload_n (pc' := 17) rfl rfl rfl ?_
      refine d_toM (g_inj ns) hl2 hR2 (fun lvw26 memw26 hlw26 hRw26 => ?_)
      show h_T g_P (g_Y ns) 154 23 [(0, .ref 98), (1, .int y1)] [] σ2 _
      refine h_iload_n (pc' := 24) rfl rfl rfl ?_
      refine h_iconst (pc' := 25) (x := (Int32.ofInt 3)) rfl rfl rfl ?_
      refine h_cgt (tg := 37) (pc' := 28) rfl rfl rfl hy1 ci_3 (fun c27 => ?_) (fun c27 => absurd c27 (by omega))
      refine h_iload_n (pc' := 38) rfl rfl rfl ?_
      refine h_iconst (pc' := 39) (x := (Int32.ofInt 4)) rfl rfl rfl ?_
      refine h_cne (tg := 53) (pc' := 42) rfl rfl rfl hy1 ci_4 (fun c28 => ?_) (fun c28 => absurd c28 (by omega))
      refine h_iload_n (pc' := 54) rfl rfl rfl ?_
      refine h_iconst (pc' := 55) (x := (Int32.ofInt 5)) rfl rfl rfl ?_
      refine h_cne (tg := 69) (pc' := 58) rfl rfl rfl hy1 ci_5 (fun c29 => ?_) (fun c29 => absurd c29 (by omega))
      refine h_iload_n (pc' := 70) rfl rfl rfl ?_
      refine h_bipush (pc' := 72) (x := (Int32.ofInt 6)) rfl rfl cb_6 ?_
      refine h_cne (tg := 88) (pc' := 75) rfl rfl rfl hy1 ci_6 (fun c30 => absurd (Int.le_antisymm (by omega) (by omega)) c30) (fun c30 => ?_)
      refine h_aload_n (pc' := 76) rfl rfl rfl ?_
      refine h_getI (pc' := 79) (v := σ2 98 6) rfl rfl rfl rfl rfl rfl (fun z31 hz31 => ?_)
      have tz31 := tf_98_6 hI2
      refine h_iconst (pc' := 80) (x := (Int32.ofInt 3)) rfl rfl rfl ?_
      refine h_cne (tg := 88) (pc' := 83) rfl rfl rfl hz31 ci_3 (fun c32 => ?_) (fun c32 => absurd c32 (by omega))
      clear hz31
      refine h_iload_n (pc' := 89) rfl rfl rfl ?_
      refine h_bipush (pc' := 91) (x := (Int32.ofInt 7)) rfl rfl cb_7 ?_
      refine h_cne (tg := 106) (pc' := 94) rfl rfl rfl hy1 ci_7 (fun c33 => ?_) (fun c33 => absurd c33 (by omega))
      have uH34 := tf_98_7 hI2
      refine h_wk [(0, .ref 98), (1, .int y1)] ⟨rfl, rfl, trivial⟩ (lm_pt _ hI2 y1 _ hy1 (by omega) (fun H34 hH34 => (h_fgt (E := fun s => s 98 15 = σ2 98 15 ∧ s 98 16 = σ2 98 16 ∧ s 98 17 = σ2 98 17 ∧ s 98 18 = σ2 98 18 ∧ s 98 13 = σ2 98 13 ∧ s 98 14 = σ2 98 14 ∧ s 98 5 = σ2 98 5 ∧ s 98 6 = σ2 98 6 ∧ s 98 7 = H34 ∧ s 98 8 = σ2 98 8 ∧ s 98 9 = σ2 98 9 ∧ s 101 18 = σ2 101 18 ∧ s 101 25 = σ2 101 25 ∧ s 101 43 = σ2 101 43 ∧ s = h_up σ2 98 7 H34) _ (if_98_7 hI2 (by omega)) (F2.up rfl) ⟨rfl, rfl, rfl, rfl, rfl, rfl, rfl, rfl, rfl, rfl, rfl, rfl, rfl, rfl, rfl⟩ (fun s35 Is35 Fs35 (es35 : s35 98 15 = σ2 98 15 ∧ s35 98 16 = σ2 98 16 ∧ s35 98 17 = σ2 98 17 ∧ s35 98 18 = σ2 98 18 ∧ s35 98 13 = σ2 98 13 ∧ s35 98 14 = σ2 98 14 ∧ s35 98 5 = σ2 98 5 ∧ s35 98 6 = σ2 98 6 ∧ s35 98 7 = H34 ∧ s35 98 8 = σ2 98 8 ∧ s35 98 9 = σ2 98 9 ∧ s35 101 18 = σ2 101 18 ∧ s35 101 25 = σ2 101 25 ∧ s35 101 43 = σ2 101 43 ∧ s35 = h_up σ2 98 7 H34) => ?_))))
      have us35 := es35.2.2.2.2.2.2.2.2.2.2.2.2.2.2
      refine h_aload_n (pc' := 129) rfl rfl rfl ?_
      refine d_pcall (g_inj ns) (m1 := 54) (pc1' := 20) (M1 := [(0, .ref 63)]) (rest1 := []) (m2 := 148) (pc2' := 132) (M2 := [(0, .ref 98)]) (rest2 := []) ⟨false, _, _, _, _, _, _, rfl, rfl, rfl, rfl, rfl, rfl, rfl⟩ ⟨false, _, _, _, _, _, _, rfl, rfl, rfl, rfl, rfl, rfl, rfl⟩ hRw26 ?_
      refine pp_step hI1 Is35 (hTL.fr (F1.mono rfl) (Fs35.mono rfl)) (Int.le_antisymm (by omega) (by omega)) (Int.le_antisymm (by omega) (by omega)) (Int.le_antisymm (by omega) (by omega)) (by omega) (Or.inr ⟨Int.le_antisymm (by omega) (by omega), Int.le_antisymm (by omega) (by omega)⟩) (fun sq36 tq36 Isq36 Itq36 Gsq36 Gtq36 yq36_0 yq36_1 yq36_2 yq36_3 yq36_4 pcq36 memq36 hRq36 => ?_)
      have Fsq36 := (Gsq36.mono (B := k_pl) rfl).tr F1
      have Ftq36 := (Gtq36.mono (B := k_pm) rfl).tr Fs35
      have esq36_6 : sq36 64 1 = σ1 64 1 := (Gsq36 64 1 rfl).trans rfl
      have esq36_7 : sq36 66 8 = σ1 66 8 := (Gsq36 66 8 rfl).trans rfl
      have esq36_8 : sq36 66 9 = σ1 66 9 := (Gsq36 66 9 rfl).trans rfl
      have esq36_9 : sq36 66 10 = σ1 66 10 := (Gsq36 66 10 rfl).trans rfl
      have esq36_10 : sq36 69 2 = σ1 69 2 := (Gsq36 69 2 rfl).trans rfl
      have esq36_11 : sq36 72 2 = σ1 72 2 := (Gsq36 72 2 rfl).trans rfl
      have esq36_12 : sq36 63 5 = σ1 63 5 := (Gsq36 63 5 rfl).trans rfl
      have etq36_6 : tq36 98 5 = σ2 98 5 := (Gtq36 98 5 rfl).trans es35.2.2.2.2.2.2.1
      have etq36_7 : tq36 98 6 = σ2 98 6 := (Gtq36 98 6 rfl).trans es35.2.2.2.2.2.2.2.1
      have etq36_8 : tq36 98 7 = H34 := (Gtq36 98 7 rfl).trans es35.2.2.2.2.2.2.2.2.1
      have etq36_9 : tq36 98 8 = σ2 98 8 := (Gtq36 98 8 rfl).trans es35.2.2.2.2.2.2.2.2.2.1
      have etq36_10 : tq36 98 9 = σ2 98 9 := (Gtq36 98 9 rfl).trans es35.2.2.2.2.2.2.2.2.2.2.1
      have etq36_11 : tq36 101 18 = σ2 101 18 := (Gtq36 101 18 rfl).trans es35.2.2.2.2.2.2.2.2.2.2.2.1
      have etq36_12 : tq36 101 25 = σ2 101 25 := (Gtq36 101 25 rfl).trans es35.2.2.2.2.2.2.2.2.2.2.2.2.1
      have etq36_13 : tq36 101 43 = σ2 101 43 := (Gtq36 101 43 rfl).trans es35.2.2.2.2.2.2.2.2.2.2.2.2.2.1
      show h_T g_P (g_Y ns) 154 132 [(0, .ref 98), (1, .int y1)] [] tq36 _
      refine h_aload_n (pc' := 133) rfl rfl rfl ?_
      refine h_getI (pc' := 136) (v := tq36 98 13) rfl rfl rfl rfl rfl rfl (fun z37 hz37 => ?_)
      have tz37 := tf_98_13 Itq36
      refine h_zle (tg := 140) (pc' := 139) rfl rfl rfl hz37 (fun c38 => ?_) (fun c38 => ?_)
      · clear hz37
        refine h_aload_n (pc' := 141) rfl rfl rfl ?_
        refine h_iload_n (pc' := 142) rfl rfl rfl ?_
        refine d_call (g_inj ns) (pc' := 145) (m := 153) (M := [(0, .ref 98), (1, .int y1)]) (rest := []) ⟨false, _, _, _, _, _, _, rfl, rfl, rfl, rfl, rfl, rfl, rfl⟩ (fun lv39 hlv39 => ?_)
        refine d_toL (g_inj ns) hlw26 hRq36 (fun lvw40 memw40 hlw40 hRw40 => ?_)
        show h_T g_P (g_Y ns) 57 20 [(0, .ref 63), (1, .int (Int32.ofInt 0))] [] sq36 _
        refine h_vret rfl rfl (d_retn hlv24 ?_)
        refine h_wk [(0, .ref 63)] ⟨rfl, trivial⟩ (ls_gat_b Isq36 Itq36 (hTL.fr (Fsq36.mono rfl) (Ftq36.mono rfl))  y1 _ hy1 (Int.le_antisymm (by omega) (by omega)) (Int.le_antisymm (by omega) (by omega)) (Int.le_antisymm (by omega) (by omega)) (Int.le_antisymm (by omega) (by omega)) (Int.le_antisymm (by omega) (by omega)) (Int.le_antisymm (by omega) (by omega)) (Int.le_antisymm (by omega) (by omega)) (Int.le_antisymm (by omega) (by omega)) (Int.le_antisymm (by omega) (by omega)) (by omega) (d_mk ((Gsq36 66 8 rfl)) ((Gsq36 66 9 rfl)) ((Gsq36 66 10 rfl)) ((Gsq36 69 2 rfl)) ((Gsq36 72 2 rfl)) ((Gsq36 63 5 rfl)) (fun j => (Gsq36 67 j rfl)) (fun j => (Gsq36 68 j rfl)) (fun j => (Gsq36 70 j rfl)) (fun j => (Gsq36 71 j rfl)) (fun j => (Gsq36 73 j rfl)) (fun j => (Gsq36 74 j rfl)) (fun j => (Gsq36 75 j rfl)) (fun j => (Gsq36 76 j rfl)) (fun j => (Gsq36 77 j rfl)) (fun j => (Gsq36 78 j rfl)) ((Gtq36 98 5 rfl).trans (h_upd us35 (by decide))) ((Gtq36 98 6 rfl).trans (h_upd us35 (by decide))) (by omega) ((Gtq36 98 8 rfl).trans (h_upd us35 (by decide))) ((Gtq36 98 9 rfl).trans (h_upd us35 (by decide))) (fun j => (Gtq36 101 j rfl).trans (h_upo us35 rfl j)) (pr10)) (Int.le_antisymm (by omega) (by omega)) (pcq36.elim (fun pcq36 => (by exfalso; omega)) (fun pcq36 => (pcq36.elim (fun pcq36 => (Or.inl ⟨Int.le_antisymm (by omega) (by omega), Int.le_antisymm (by omega) (by omega), ⟨by omega, by omega⟩, Int.le_antisymm (by omega) (by omega), Int.le_antisymm (by omega) (by omega), ⟨by omega, by omega⟩, Int.le_antisymm (by omega) (by omega)⟩)) (fun pcq36 => (pcq36.elim (fun pcq36 => (Or.inr (Or.inl ⟨Int.le_antisymm (by omega) (by omega), Int.le_antisymm (by omega) (by omega), ⟨by omega, by omega⟩, Int.le_antisymm (by omega) (by omega), Int.le_antisymm (by omega) (by omega), ⟨by omega, by omega⟩, by omega⟩))) (fun pcq36 => (pcq36.elim (fun pcq36 => (Or.inr (Or.inr (Or.inl ⟨Int.le_antisymm (by omega) (by omega), Int.le_antisymm (by omega) (by omega), ⟨by omega, by omega⟩, Int.le_antisymm (by omega) (by omega), Int.le_antisymm (by omega) (by omega), ⟨by omega, by omega⟩, ⟨by omega, by omega⟩, ⟨by omega, by omega⟩, Int.le_antisymm (by omega) (by omega), by omega⟩)))) (fun pcq36 => (Or.inr (Or.inr (Or.inr ⟨Int.le_antisymm (by omega) (by omega), Int.le_antisymm (by omega) (by omega), ⟨by omega, by omega⟩, Int.le_antisymm (by omega) (by omega), Int.le_antisymm (by omega) (by omega), ⟨by omega, by omega⟩, by omega⟩))))))))))) (fun sq41 tq41 Isq41 Itq41 Gsq41 Gtq41   yq41_0 yq41_1 yq41_2 yq41_3 yq41_4 yq41_5 pcq41 lvq41 memq41 hlq41 hRq41 => ?_) _ _ (h_al_ok ⟨rfl, rfl, trivial⟩ hlw40) hRw40)
        · have Fsq41 := (Gsq41.mono (B := k_pl) rfl).tr Fsq36
          have Ftq41 := (Gtq41.mono (B := k_pm) rfl).tr Ftq36
          have Isq41 := Isq41
          have Itq41 := Itq41
          have Gsq41 := Gsq41
          have Gtq41 := Gtq41
          have esq41_6 : sq41 64 1 = σ1 64 1 := (Gsq41 64 1 rfl).trans esq36_6
          rcases pcq41 with pcq41 | pcq41
          · show h_T g_P (g_Y ns) 61 61 [(0, .ref 63)] [] sq41 _
            refine h_vret rfl rfl (d_retn hlv21 ?_)
            refine h_goto (pc' := 150) rfl rfl ?_
            refine h_aload_n (pc' := 151) rfl rfl rfl ?_
            refine h_getI (pc' := 154) (v := sq41 63 2) rfl rfl rfl rfl rfl rfl (fun z42 hz42 => ?_)
            have tz42 := tf_63_2 Isq41
            refine h_zne (tg := 180) (pc' := 157) rfl rfl rfl hz42 (fun c43 => ?_) (fun c43 => absurd c43 (by omega))
            clear hz42
            refine d_toM (g_inj ns) hlq41 hRq41 (fun lvw44 memw44 hlw44 hRw44 => ?_)
            show h_T g_P (g_Y ns) 153 178 [(0, .ref 98)] [] tq41 _
            refine h_vret rfl rfl (d_retn hlv39 ?_)
            refine h_aload_n (pc' := 146) rfl rfl rfl ?_
            refine h_getI (pc' := 149) (v := tq41 98 13) rfl rfl rfl rfl rfl rfl (fun z45 hz45 => ?_)
            have tz45 := tf_98_13 Itq41
            refine h_zne (tg := 165) (pc' := 152) rfl rfl rfl hz45 (fun c46 => ?_) (fun c46 => absurd c46 (by omega))
            clear hz45
            refine d_toL (g_inj ns) hlw44 hRw44 (fun lvw47 memw47 hlw47 hRw47 => ?_)
            show h_T g_P (g_Y ns) 56 180 [(0, .ref 63), (1, .int x1)] [] sq41 _
            exact h_wk [(0, .ref 63)] ⟨rfl, trivial⟩ (kx0 _ _ Isq41 Itq41 Fsq41 Ftq41 (Int.le_antisymm (by omega) (by omega)) (Int.le_antisymm (by omega) (by omega)) (Int.le_antisymm (by omega) (by omega)) (by omega) (by omega) (fun h => absurd h (by omega)) (Or.inl ⟨⟨by omega, by omega⟩, ⟨by omega, by omega⟩, Int.le_antisymm (by omega) (by omega), Int.le_antisymm (by omega) (by omega)⟩) _ _ (h_al_ok ⟨rfl, trivial⟩ hlw47) hRw47)
          · show h_T g_P (g_Y ns) 61 61 [(0, .ref 63)] [] sq41 _
            refine h_vret rfl rfl (d_retn hlv21 ?_)
            refine h_goto (pc' := 150) rfl rfl ?_
            refine d_toM (g_inj ns) hlq41 hRq41 (fun lvw48 memw48 hlw48 hRw48 => ?_)
            show h_T g_P (g_Y ns) 153 178 [(0, .ref 98)] [] tq41 _
            refine h_vret rfl rfl (d_retn hlv39 ?_)
            refine d_toL (g_inj ns) hlw48 hRw48 (fun lvw49 memw49 hlw49 hRw49 => ?_)
            show h_T g_P (g_Y ns) 56 150 [(0, .ref 63), (1, .int x1)] [] sq41 _
            refine h_wk [(0, .ref 63)] ⟨rfl, trivial⟩ (ls_sc Isq41 Itq41 (hTL.fr (Fsq41.mono rfl) (Ftq41.mono rfl))   (Int.le_antisymm (by omega) (by omega)) (Int.le_antisymm (by omega) (by omega)) (Int.le_antisymm (by omega) (by omega)) (by omega) (yq41_5) (pcq41.elim (fun pcq41 => (Or.inl ⟨Int.le_antisymm (by omega) (by omega), Int.le_antisymm (by omega) (by omega), Int.le_antisymm (by omega) (by omega), Int.le_antisymm (by omega) (by omega), Int.le_antisymm (by omega) (by omega)⟩)) (fun pcq41 => (pcq41.elim (fun pcq41 => (Or.inr (Or.inl ⟨Int.le_antisymm (by omega) (by omega), Int.le_antisymm (by omega) (by omega), Int.le_antisymm (by omega) (by omega), Int.le_antisymm (by omega) (by omega), by omega⟩))) (fun pcq41 => (pcq41.elim (fun pcq41 => (Or.inr (Or.inr (Or.inl ⟨Int.le_antisymm (by omega) (by omega), Int.le_antisymm (by omega) (by omega), Int.le_antisymm (by omega) (by omega), Int.le_antisymm (by omega) (by omega), ⟨by omega, by omega⟩, ⟨by omega, by omega⟩, Int.le_antisymm (by omega) (by omega), by omega⟩)))) (fun pcq41 => (Or.inr (Or.inr (Or.inr ⟨Int.le_antisymm (by omega) (by omega), Int.le_antisymm (by omega) (by omega), Int.le_antisymm (by omega) (by omega), Int.le_antisymm (by omega) (by omega), by omega⟩))))))))) (fun sq50 tq50 Isq50 Itq50 Gsq50 Gtq50   yq50_0 yq50_1 yq50_2 yq50_3 yq50_4 yq50_5 pcq50 lvq50 memq50 hlq50 hRq50 => ?_) _ _ (h_al_ok ⟨rfl, trivial⟩ hlw49) hRw49)
            · have Fsq50 := (Gsq50.mono (B := k_pl) rfl).tr Fsq41
              have Ftq50 := (Gtq50.mono (B := k_pm) rfl).tr Ftq41
              have Isq50 := Isq50
              have Itq50 := Itq50
              have Gsq50 := Gsq50
              have Gtq50 := Gtq50
              have esq50_6 : sq50 64 1 = σ1 64 1 := (Gsq50 64 1 rfl).trans esq41_6
              rcases pcq50 with pcq50 | pcq50
              · show h_T g_P (g_Y ns) 56 180 [(0, .ref 63)] [] sq50 _
                refine d_toM (g_inj ns) hlq50 hRq50 (fun lvw51 memw51 hlw51 hRw51 => ?_)
                show h_T g_P (g_Y ns) 154 165 [(0, .ref 98)] [] tq50 _
                refine d_toL (g_inj ns) hlw51 hRw51 (fun lvw52 memw52 hlw52 hRw52 => ?_)
                show h_T g_P (g_Y ns) 56 180 [(0, .ref 63)] [] sq50 _
                exact h_wk [(0, .ref 63)] ⟨rfl, trivial⟩ (kx0 _ _ Isq50 Itq50 Fsq50 Ftq50 (Int.le_antisymm (by omega) (by omega)) (Int.le_antisymm (by omega) (by omega)) (Int.le_antisymm (by omega) (by omega)) (by omega) (by omega) (fun h => absurd h (by omega)) (Or.inl ⟨⟨by omega, by omega⟩, ⟨by omega, by omega⟩, Int.le_antisymm (by omega) (by omega), Int.le_antisymm (by omega) (by omega)⟩) _ _ (h_al_ok ⟨rfl, trivial⟩ hlw52) hRw52)
              · show h_T g_P (g_Y ns) 56 180 [(0, .ref 63)] [] sq50 _
                refine d_toM (g_inj ns) hlq50 hRq50 (fun lvw53 memw53 hlw53 hRw53 => ?_)
                show h_T g_P (g_Y ns) 154 165 [(0, .ref 98)] [] tq50 _
                refine d_toL (g_inj ns) hlw53 hRw53 (fun lvw54 memw54 hlw54 hRw54 => ?_)
                show h_T g_P (g_Y ns) 56 180 [(0, .ref 63)] [] sq50 _
                exact h_wk [(0, .ref 63)] ⟨rfl, trivial⟩ (kx0 _ _ Isq50 Itq50 Fsq50 Ftq50 (Int.le_antisymm (by omega) (by omega)) (Int.le_antisymm (by omega) (by omega)) (Int.le_antisymm (by omega) (by omega)) (by omega) (by omega) (yq50_5) (Or.inr ⟨Int.le_antisymm (by omega) (by omega), Int.le_antisymm (by omega) (by omega), Int.le_antisymm (by omega) (by omega), Int.le_antisymm (by omega) (by omega), by omega, by omega⟩) _ _ (h_al_ok ⟨rfl, trivial⟩ hlw54) hRw54)
      · clear hz37
        refine d_toL (g_inj ns) hlw26 hRq36 (fun lvw55 memw55 hlw55 hRw55 => ?_)
        show h_T g_P (g_Y ns) 57 20 [(0, .ref 63), (1, .int (Int32.ofInt 0))] [] sq36 _
        refine h_vret rfl rfl (d_retn hlv24 ?_)
        refine h_aload_n (pc' := 21) rfl rfl rfl ?_
        refine h_bipush (pc' := 23) (x := (Int32.ofInt 9)) rfl rfl cb_9 ?_
        refine h_call (sp := false) (pc' := 26) (M := [(0, .ref 63), (1, .int (Int32.ofInt 9))]) rfl rfl rfl rfl rfl rfl rfl rfl ?_
        refine h_aload_n (pc' := 1) rfl rfl rfl ?_
        refine h_getI (pc' := 4) (v := sq36 63 2) rfl rfl rfl rfl rfl rfl (fun z56 hz56 => ?_)
        have tz56 := tf_63_2 Isq36
        refine h_zne (tg := 30) (pc' := 7) rfl rfl rfl hz56 (fun c57 => ?_) (fun c57 => absurd c57 (by omega))
        clear hz56
        refine h_aload_n (pc' := 31) rfl rfl rfl ?_
        refine h_getI (pc' := 34) (v := sq36 63 2) rfl rfl rfl rfl rfl rfl (fun z58 hz58 => ?_)
        refine h_zne (tg := 60) (pc' := 37) rfl rfl rfl hz58 (fun c59 => ?_) (fun c59 => absurd c59 (by omega))
        clear hz58
        refine h_aload_n (pc' := 61) rfl rfl rfl ?_
        refine h_getR (pc' := 64) rfl rfl rfl rfl rfl ?_
        refine h_getI (pc' := 67) (v := sq36 64 5) rfl rfl rfl rfl rfl rfl (fun z60 hz60 => ?_)
        have tz60 := tf_64_5 Isq36
        refine h_istore_n (pc' := 68) (M := [(2, .int z60), (0, .ref 63), (1, .int (Int32.ofInt 9))]) rfl rfl rfl rfl ?_
        refine h_aload_n (pc' := 69) rfl rfl rfl ?_
        refine h_call (sp := false) (pc' := 72) (M := [(0, .ref 63)]) rfl rfl rfl rfl rfl rfl rfl rfl ?_
        refine h_aload_n (pc' := 1) rfl rfl rfl ?_
        refine h_getI (pc' := 4) (v := sq36 63 2) rfl rfl rfl rfl rfl rfl (fun z61 hz61 => ?_)
        refine h_zne (tg := 37) (pc' := 7) rfl rfl rfl hz61 (fun c62 => ?_) (fun c62 => absurd c62 (by omega))
        clear hz61
        refine h_vret rfl rfl (h_Kn ?_)
        refine h_iload_n (pc' := 73) rfl rfl rfl ?_
        refine h_iret rfl rfl (h_Kv ?_)
        refine h_istore_n (pc' := 27) (M := [(1, .int z60), (0, .ref 63)]) rfl rfl rfl rfl ?_
        refine h_aload_n (pc' := 28) rfl rfl rfl ?_
        refine h_call (sp := false) (pc' := 31) (M := [(0, .ref 63)]) rfl rfl rfl rfl rfl rfl rfl rfl ?_
        refine h_aload_n (pc' := 1) rfl rfl rfl ?_
        refine h_getI (pc' := 4) (v := sq36 63 2) rfl rfl rfl rfl rfl rfl (fun z63 hz63 => ?_)
        refine h_zne (tg := 22) (pc' := 7) rfl rfl rfl hz63 (fun c64 => ?_) (fun c64 => absurd c64 (by omega))
        clear hz63
        refine h_iconst (pc' := 23) (x := (Int32.ofInt 0)) rfl rfl rfl ?_
        refine h_zret rfl rfl ci_0 (by omega) (h_Kv ?_)
        refine h_zeq (tg := 42) (pc' := 34) rfl rfl rfl ci_0 (fun c65 => ?_) (fun c65 => absurd (Int.le_antisymm (by omega) (by omega)) c65)
        refine h_bipush (pc' := 44) (x := (Int32.ofInt (-4))) rfl rfl cb_m4 ?_
        refine h_istore_n (pc' := 45) (M := [(2, .int (Int32.ofInt (-4))), (1, .int z60), (0, .ref 63)]) rfl rfl rfl rfl ?_
        refine h_aload_n (pc' := 46) rfl rfl rfl ?_
        refine h_getI (pc' := 49) (v := sq36 63 2) rfl rfl rfl rfl rfl rfl (fun z66 hz66 => ?_)
        refine h_zne (tg := 61) (pc' := 52) rfl rfl rfl hz66 (fun c67 => ?_) (fun c67 => absurd c67 (by omega))
        clear hz66
        refine h_vret rfl rfl (d_retn hlv21 ?_)
        clear hz60
        refine h_goto (pc' := 150) rfl rfl ?_
        refine h_aload_n (pc' := 151) rfl rfl rfl ?_
        refine h_getI (pc' := 154) (v := sq36 63 2) rfl rfl rfl rfl rfl rfl (fun z68 hz68 => ?_)
        refine h_zne (tg := 180) (pc' := 157) rfl rfl rfl hz68 (fun c69 => ?_) (fun c69 => absurd c69 (by omega))
        clear hz68
        exact h_wk [(0, .ref 63)] ⟨rfl, trivial⟩ (kx1 _ _ Isq36 Itq36 Fsq36 Ftq36 (Int.le_antisymm (by omega) (by omega)) (Int.le_antisymm (by omega) (by omega)) (Int.le_antisymm (by omega) (by omega)) (by omega) (by omega) (pcq36.elim (fun pcq36 => ⟨⟨by omega, by omega⟩, ⟨by omega, by omega⟩, Int.le_antisymm (by omega) (by omega), Int.le_antisymm (by omega) (by omega)⟩) (fun pcq36 => (pcq36.elim (fun pcq36 => (by exfalso; omega)) (fun pcq36 => (pcq36.elim (fun pcq36 => (by exfalso; omega)) (fun pcq36 => (pcq36.elim (fun pcq36 => (by exfalso; omega)) (fun pcq36 => (by exfalso; omega))))))))) _ _ (h_al_ok ⟨rfl, trivial⟩ hlw55) hRw55)
    · clear hz22
      refine h_iconst (pc' := 13) (x := (Int32.ofInt 1)) rfl rfl rfl ?_
      refine h_goto (pc' := 17) rfl rfl ?_
      refine d_call (g_inj ns) (pc' := 20) (m := 57) (M := [(0, .ref 63), (1, .int (Int32.ofInt 1))]) (rest := []) ⟨false, _, _, _, _, _, _, rfl, rfl, rfl, rfl, rfl, rfl, rfl⟩ (fun lv70 hlv70 => ?_)
      refine h_iload_n (pc' := 1) rfl rfl rfl ?_
      refine h_zeq (tg := 16) (pc' := 4) rfl rfl rfl ci_1 (fun c71 => absurd c71 (by omega)) (fun c71 => ?_)
      refine h_aload_n (pc' := 5) rfl rfl rfl ?_
      refine h_iconst (pc' := 6) (x := (Int32.ofInt 5)) rfl rfl rfl ?_
      refine h_aload_n (pc' := 7) rfl rfl rfl ?_
      refine h_getR (pc' := 10) rfl rfl rfl rfl rfl ?_
      refine h_getI (pc' := 13) (v := σ1 64 4) rfl rfl rfl rfl rfl rfl (fun z72 hz72 => ?_)
      have tz72 := tf_64_4 hI1
      refine h_call (sp := false) (pc' := 16) (M := [(0, .ref 63), (1, .int (Int32.ofInt 5)), (2, .int z72)]) rfl rfl rfl rfl rfl rfl rfl rfl ?_
      refine h_aload_n (pc' := 1) rfl rfl rfl ?_
      refine h_getI (pc' := 4) (v := σ1 63 2) rfl rfl rfl rfl rfl rfl (fun z73 hz73 => ?_)
      have tz73 := tf_63_2 hI1
      refine h_zne (tg := 17) (pc' := 7) rfl rfl rfl hz73 (fun c74 => absurd (Int.le_antisymm (by omega) (by omega)) c74) (fun c74 => ?_)
      clear hz73
      refine h_aload_n (pc' := 8) rfl rfl rfl ?_
      refine h_iload_n (pc' := 9) rfl rfl rfl ?_
      refine h_put (pc' := 12) rfl rfl rfl rfl rfl rfl ci_5 rfl (h_fgt (E := fun s => s 64 2 = σ1 64 2 ∧ s 64 4 = σ1 64 4 ∧ s 64 3 = σ1 64 3 ∧ s 64 5 = σ1 64 5 ∧ s 63 2 = 5 ∧ s 63 3 = σ1 63 3 ∧ s 64 1 = σ1 64 1 ∧ s 66 8 = σ1 66 8 ∧ s 66 9 = σ1 66 9 ∧ s 66 10 = σ1 66 10 ∧ s 69 2 = σ1 69 2 ∧ s 72 2 = σ1 72 2 ∧ s 63 5 = σ1 63 5 ∧ s = h_up σ1 63 2 5) _ (if_63_2 hI1 (by omega)) (F1.up rfl) ⟨rfl, rfl, rfl, rfl, rfl, rfl, rfl, rfl, rfl, rfl, rfl, rfl, rfl, rfl⟩ (fun s75 Is75 Fs75 (es75 : s75 64 2 = σ1 64 2 ∧ s75 64 4 = σ1 64 4 ∧ s75 64 3 = σ1 64 3 ∧ s75 64 5 = σ1 64 5 ∧ s75 63 2 = 5 ∧ s75 63 3 = σ1 63 3 ∧ s75 64 1 = σ1 64 1 ∧ s75 66 8 = σ1 66 8 ∧ s75 66 9 = σ1 66 9 ∧ s75 66 10 = σ1 66 10 ∧ s75 69 2 = σ1 69 2 ∧ s75 72 2 = σ1 72 2 ∧ s75 63 5 = σ1 63 5 ∧ s75 = h_up σ1 63 2 5) => ?_))
      have us75 := es75.2.2.2.2.2.2.2.2.2.2.2.2.2
      refine h_aload_n (pc' := 13) rfl rfl rfl ?_
      refine h_iload_n (pc' := 14) rfl rfl rfl ?_
      refine h_put (pc' := 17) rfl rfl rfl rfl rfl rfl hz72 rfl (h_fgt (E := fun s => s 64 2 = σ1 64 2 ∧ s 64 4 = σ1 64 4 ∧ s 64 3 = σ1 64 3 ∧ s 64 5 = σ1 64 5 ∧ s 63 2 = 5 ∧ s 63 3 = (σ1 64 4) ∧ s 64 1 = σ1 64 1 ∧ s 66 8 = σ1 66 8 ∧ s 66 9 = σ1 66 9 ∧ s 66 10 = σ1 66 10 ∧ s 69 2 = σ1 69 2 ∧ s 72 2 = σ1 72 2 ∧ s 63 5 = σ1 63 5 ∧ s = h_up s75 63 3 (σ1 64 4)) _ (if_63_3 Is75 (h_rgv hz72)) (Fs75.up rfl) ⟨es75.1, es75.2.1, es75.2.2.1, es75.2.2.2.1, es75.2.2.2.2.1, rfl, es75.2.2.2.2.2.2.1, es75.2.2.2.2.2.2.2.1, es75.2.2.2.2.2.2.2.2.1, es75.2.2.2.2.2.2.2.2.2.1, es75.2.2.2.2.2.2.2.2.2.2.1, es75.2.2.2.2.2.2.2.2.2.2.2.1, es75.2.2.2.2.2.2.2.2.2.2.2.2.1, rfl⟩ (fun s76 Is76 Fs76 (es76 : s76 64 2 = σ1 64 2 ∧ s76 64 4 = σ1 64 4 ∧ s76 64 3 = σ1 64 3 ∧ s76 64 5 = σ1 64 5 ∧ s76 63 2 = 5 ∧ s76 63 3 = (σ1 64 4) ∧ s76 64 1 = σ1 64 1 ∧ s76 66 8 = σ1 66 8 ∧ s76 66 9 = σ1 66 9 ∧ s76 66 10 = σ1 66 10 ∧ s76 69 2 = σ1 69 2 ∧ s76 72 2 = σ1 72 2 ∧ s76 63 5 = σ1 63 5 ∧ s76 = h_up s75 63 3 (σ1 64 4)) => ?_))
      clear es75
      have us76 := es76.2.2.2.2.2.2.2.2.2.2.2.2.2
      refine h_vret rfl rfl (h_Kn ?_)
      refine h_aload_n (pc' := 17) rfl rfl rfl ?_
      refine h_call (sp := false) (pc' := 20) (M := [(0, .ref 63)]) rfl rfl rfl rfl rfl rfl rfl rfl ?_
      refine h_aload_n (pc' := 1) rfl rfl rfl ?_
      refine h_getI (pc' := 4) (v := 5) rfl rfl rfl rfl rfl es76.2.2.2.2.1 (fun z77 hz77 => ?_)
      refine h_zne (tg := 37) (pc' := 7) rfl rfl rfl hz77 (fun c78 => ?_) (fun c78 => absurd c78 (by omega))
      clear hz77
      refine h_vret rfl rfl (h_Kn ?_)
      refine h_vret rfl rfl (d_retn hlv70 ?_)
      refine h_aload_n (pc' := 21) rfl rfl rfl ?_
      refine h_bipush (pc' := 23) (x := (Int32.ofInt 9)) rfl rfl cb_9 ?_
      refine h_call (sp := false) (pc' := 26) (M := [(0, .ref 63), (1, .int (Int32.ofInt 9))]) rfl rfl rfl rfl rfl rfl rfl rfl ?_
      refine h_aload_n (pc' := 1) rfl rfl rfl ?_
      refine h_getI (pc' := 4) (v := 5) rfl rfl rfl rfl rfl es76.2.2.2.2.1 (fun z79 hz79 => ?_)
      refine h_zne (tg := 30) (pc' := 7) rfl rfl rfl hz79 (fun c80 => ?_) (fun c80 => absurd c80 (by omega))
      clear hz79
      refine h_aload_n (pc' := 31) rfl rfl rfl ?_
      refine h_getI (pc' := 34) (v := 5) rfl rfl rfl rfl rfl es76.2.2.2.2.1 (fun z81 hz81 => ?_)
      refine h_zne (tg := 60) (pc' := 37) rfl rfl rfl hz81 (fun c82 => ?_) (fun c82 => absurd c82 (by omega))
      clear hz81
      refine h_aload_n (pc' := 61) rfl rfl rfl ?_
      refine h_getR (pc' := 64) rfl rfl rfl rfl rfl ?_
      refine h_getI (pc' := 67) (v := σ1 64 5) rfl rfl rfl rfl rfl es76.2.2.2.1 (fun z83 hz83 => ?_)
      have tz83 := tf_64_5 hI1
      refine h_istore_n (pc' := 68) (M := [(2, .int z83), (0, .ref 63), (1, .int (Int32.ofInt 9))]) rfl rfl rfl rfl ?_
      refine h_aload_n (pc' := 69) rfl rfl rfl ?_
      refine h_call (sp := false) (pc' := 72) (M := [(0, .ref 63)]) rfl rfl rfl rfl rfl rfl rfl rfl ?_
      refine h_aload_n (pc' := 1) rfl rfl rfl ?_
      refine h_getI (pc' := 4) (v := 5) rfl rfl rfl rfl rfl es76.2.2.2.2.1 (fun z84 hz84 => ?_)
      refine h_zne (tg := 37) (pc' := 7) rfl rfl rfl hz84 (fun c85 => ?_) (fun c85 => absurd c85 (by omega))
      clear hz84
      refine h_vret rfl rfl (h_Kn ?_)
      refine h_iload_n (pc' := 73) rfl rfl rfl ?_
      refine h_iret rfl rfl (h_Kv ?_)
      refine h_istore_n (pc' := 27) (M := [(1, .int z83), (0, .ref 63)]) rfl rfl rfl rfl ?_
      refine h_aload_n (pc' := 28) rfl rfl rfl ?_
      refine h_call (sp := false) (pc' := 31) (M := [(0, .ref 63)]) rfl rfl rfl rfl rfl rfl rfl rfl ?_
      refine h_aload_n (pc' := 1) rfl rfl rfl ?_
      refine h_getI (pc' := 4) (v := 5) rfl rfl rfl rfl rfl es76.2.2.2.2.1 (fun z86 hz86 => ?_)
      refine h_zne (tg := 22) (pc' := 7) rfl rfl rfl hz86 (fun c87 => ?_) (fun c87 => absurd c87 (by omega))
      clear hz86
      refine h_iconst (pc' := 23) (x := (Int32.ofInt 0)) rfl rfl rfl ?_
      refine h_zret rfl rfl ci_0 (by omega) (h_Kv ?_)
      refine h_zeq (tg := 42) (pc' := 34) rfl rfl rfl ci_0 (fun c88 => ?_) (fun c88 => absurd (Int.le_antisymm (by omega) (by omega)) c88)
      refine h_bipush (pc' := 44) (x := (Int32.ofInt (-4))) rfl rfl cb_m4 ?_
      refine h_istore_n (pc' := 45) (M := [(2, .int (Int32.ofInt (-4))), (1, .int z83), (0, .ref 63)]) rfl rfl rfl rfl ?_
      refine h_aload_n (pc' := 46) rfl rfl rfl ?_
      refine h_getI (pc' := 49) (v := 5) rfl rfl rfl rfl rfl es76.2.2.2.2.1 (fun z89 hz89 => ?_)
      refine h_zne (tg := 61) (pc' := 52) rfl rfl rfl hz89 (fun c90 => ?_) (fun c90 => absurd c90 (by omega))
      clear hz89
      refine h_vret rfl rfl (d_retn hlv21 ?_)
      clear hz83
      refine h_goto (pc' := 150) rfl rfl ?_
      refine h_aload_n (pc' := 151) rfl rfl rfl ?_
      refine h_getI (pc' := 154) (v := 5) rfl rfl rfl rfl rfl es76.2.2.2.2.1 (fun z91 hz91 => ?_)
      refine h_zne (tg := 180) (pc' := 157) rfl rfl rfl hz91 (fun c92 => ?_) (fun c92 => absurd c92 (by omega))
      clear hz91
      refine d_toM (g_inj ns) hl2 hR2 (fun lvw93 memw93 hlw93 hRw93 => ?_)
      show h_T g_P (g_Y ns) 154 23 [(0, .ref 98), (1, .int y1)] [] σ2 _
      refine h_iload_n (pc' := 24) rfl rfl rfl ?_
      refine h_iconst (pc' := 25) (x := (Int32.ofInt 3)) rfl rfl rfl ?_
      refine h_cgt (tg := 37) (pc' := 28) rfl rfl rfl hy1 ci_3 (fun c94 => ?_) (fun c94 => absurd c94 (by omega))
      refine h_iload_n (pc' := 38) rfl rfl rfl ?_
      refine h_iconst (pc' := 39) (x := (Int32.ofInt 4)) rfl rfl rfl ?_
      refine h_cne (tg := 53) (pc' := 42) rfl rfl rfl hy1 ci_4 (fun c95 => ?_) (fun c95 => absurd c95 (by omega))
      refine h_iload_n (pc' := 54) rfl rfl rfl ?_
      refine h_iconst (pc' := 55) (x := (Int32.ofInt 5)) rfl rfl rfl ?_
      refine h_cne (tg := 69) (pc' := 58) rfl rfl rfl hy1 ci_5 (fun c96 => ?_) (fun c96 => absurd c96 (by omega))
      refine h_iload_n (pc' := 70) rfl rfl rfl ?_
      refine h_bipush (pc' := 72) (x := (Int32.ofInt 6)) rfl rfl cb_6 ?_
      refine h_cne (tg := 88) (pc' := 75) rfl rfl rfl hy1 ci_6 (fun c97 => absurd (Int.le_antisymm (by omega) (by omega)) c97) (fun c97 => ?_)
      refine h_aload_n (pc' := 76) rfl rfl rfl ?_
      refine h_getI (pc' := 79) (v := σ2 98 6) rfl rfl rfl rfl rfl rfl (fun z98 hz98 => ?_)
      have tz98 := tf_98_6 hI2
      refine h_iconst (pc' := 80) (x := (Int32.ofInt 3)) rfl rfl rfl ?_
      refine h_cne (tg := 88) (pc' := 83) rfl rfl rfl hz98 ci_3 (fun c99 => absurd (Int.le_antisymm (by omega) (by omega)) c99) (fun c99 => ?_)
      clear hz98
      refine h_aload_n (pc' := 84) rfl rfl rfl ?_
      refine h_iconst (pc' := 85) (x := (Int32.ofInt 5)) rfl rfl rfl ?_
      refine h_call (sp := false) (pc' := 88) (M := [(0, .ref 98), (1, .int (Int32.ofInt 5))]) rfl rfl rfl rfl rfl rfl rfl rfl ?_
      refine h_aload_n (pc' := 1) rfl rfl rfl ?_
      refine h_getI (pc' := 4) (v := σ2 98 13) rfl rfl rfl rfl rfl rfl (fun z100 hz100 => ?_)
      have tz100 := tf_98_13 hI2
      refine h_zne (tg := 20) (pc' := 7) rfl rfl rfl hz100 (fun c101 => absurd (Int.le_antisymm (by omega) (by omega)) c101) (fun c101 => ?_)
      clear hz100
      refine h_aload_n (pc' := 8) rfl rfl rfl ?_
      refine h_iload_n (pc' := 9) rfl rfl rfl ?_
      refine h_put (pc' := 12) rfl rfl rfl rfl rfl rfl ci_5 rfl (h_fgt (E := fun s => s 98 15 = σ2 98 15 ∧ s 98 16 = σ2 98 16 ∧ s 98 17 = σ2 98 17 ∧ s 98 18 = σ2 98 18 ∧ s 98 13 = 5 ∧ s 98 14 = σ2 98 14 ∧ s 98 5 = σ2 98 5 ∧ s 98 6 = σ2 98 6 ∧ s 98 7 = σ2 98 7 ∧ s 98 8 = σ2 98 8 ∧ s 98 9 = σ2 98 9 ∧ s 101 18 = σ2 101 18 ∧ s 101 25 = σ2 101 25 ∧ s 101 43 = σ2 101 43 ∧ s = h_up σ2 98 13 5) _ (if_98_13 hI2 (by omega)) (F2.up rfl) ⟨rfl, rfl, rfl, rfl, rfl, rfl, rfl, rfl, rfl, rfl, rfl, rfl, rfl, rfl, rfl⟩ (fun s102 Is102 Fs102 (es102 : s102 98 15 = σ2 98 15 ∧ s102 98 16 = σ2 98 16 ∧ s102 98 17 = σ2 98 17 ∧ s102 98 18 = σ2 98 18 ∧ s102 98 13 = 5 ∧ s102 98 14 = σ2 98 14 ∧ s102 98 5 = σ2 98 5 ∧ s102 98 6 = σ2 98 6 ∧ s102 98 7 = σ2 98 7 ∧ s102 98 8 = σ2 98 8 ∧ s102 98 9 = σ2 98 9 ∧ s102 101 18 = σ2 101 18 ∧ s102 101 25 = σ2 101 25 ∧ s102 101 43 = σ2 101 43 ∧ s102 = h_up σ2 98 13 5) => ?_))
      have us102 := es102.2.2.2.2.2.2.2.2.2.2.2.2.2.2
      refine h_aload_n (pc' := 13) rfl rfl rfl ?_
      refine h_aload_n (pc' := 14) rfl rfl rfl ?_
      refine h_getI (pc' := 17) (v := σ2 98 16) rfl rfl rfl rfl rfl es102.2.1 (fun z103 hz103 => ?_)
      have tz103 := tf_98_16 hI2
      refine h_put (pc' := 20) rfl rfl rfl rfl rfl rfl hz103 rfl (h_fgt (E := fun s => s 98 15 = σ2 98 15 ∧ s 98 16 = σ2 98 16 ∧ s 98 17 = σ2 98 17 ∧ s 98 18 = σ2 98 18 ∧ s 98 13 = 5 ∧ s 98 14 = (σ2 98 16) ∧ s 98 5 = σ2 98 5 ∧ s 98 6 = σ2 98 6 ∧ s 98 7 = σ2 98 7 ∧ s 98 8 = σ2 98 8 ∧ s 98 9 = σ2 98 9 ∧ s 101 18 = σ2 101 18 ∧ s 101 25 = σ2 101 25 ∧ s 101 43 = σ2 101 43 ∧ s = h_up s102 98 14 (σ2 98 16)) _ (if_98_14 Is102 (h_rgv hz103)) (Fs102.up rfl) ⟨es102.1, es102.2.1, es102.2.2.1, es102.2.2.2.1, es102.2.2.2.2.1, rfl, es102.2.2.2.2.2.2.1, es102.2.2.2.2.2.2.2.1, es102.2.2.2.2.2.2.2.2.1, es102.2.2.2.2.2.2.2.2.2.1, es102.2.2.2.2.2.2.2.2.2.2.1, es102.2.2.2.2.2.2.2.2.2.2.2.1, es102.2.2.2.2.2.2.2.2.2.2.2.2.1, es102.2.2.2.2.2.2.2.2.2.2.2.2.2.1, rfl⟩ (fun s104 Is104 Fs104 (es104 : s104 98 15 = σ2 98 15 ∧ s104 98 16 = σ2 98 16 ∧ s104 98 17 = σ2 98 17 ∧ s104 98 18 = σ2 98 18 ∧ s104 98 13 = 5 ∧ s104 98 14 = (σ2 98 16) ∧ s104 98 5 = σ2 98 5 ∧ s104 98 6 = σ2 98 6 ∧ s104 98 7 = σ2 98 7 ∧ s104 98 8 = σ2 98 8 ∧ s104 98 9 = σ2 98 9 ∧ s104 101 18 = σ2 101 18 ∧ s104 101 25 = σ2 101 25 ∧ s104 101 43 = σ2 101 43 ∧ s104 = h_up s102 98 14 (σ2 98 16)) => ?_))
      clear es102
      have us104 := es104.2.2.2.2.2.2.2.2.2.2.2.2.2.2
      refine h_vret rfl rfl (h_Kn ?_)
      refine h_iload_n (pc' := 89) rfl rfl rfl ?_
      refine h_bipush (pc' := 91) (x := (Int32.ofInt 7)) rfl rfl cb_7 ?_
      refine h_cne (tg := 106) (pc' := 94) rfl rfl rfl hy1 ci_7 (fun c105 => ?_) (fun c105 => absurd c105 (by omega))
      have uH106 := tf_98_7 Is104
      refine h_wk [(0, .ref 98), (1, .int y1)] ⟨rfl, rfl, trivial⟩ (lm_pt _ Is104 y1 _ hy1 (by omega) (fun H106 hH106 => (h_fgt (E := fun s => s 98 15 = σ2 98 15 ∧ s 98 16 = σ2 98 16 ∧ s 98 17 = σ2 98 17 ∧ s 98 18 = σ2 98 18 ∧ s 98 13 = 5 ∧ s 98 14 = (σ2 98 16) ∧ s 98 5 = σ2 98 5 ∧ s 98 6 = σ2 98 6 ∧ s 98 7 = H106 ∧ s 98 8 = σ2 98 8 ∧ s 98 9 = σ2 98 9 ∧ s 101 18 = σ2 101 18 ∧ s 101 25 = σ2 101 25 ∧ s 101 43 = σ2 101 43 ∧ s = h_up s104 98 7 H106) _ (if_98_7 Is104 (by omega)) (Fs104.up rfl) ⟨es104.1, es104.2.1, es104.2.2.1, es104.2.2.2.1, es104.2.2.2.2.1, es104.2.2.2.2.2.1, es104.2.2.2.2.2.2.1, es104.2.2.2.2.2.2.2.1, rfl, es104.2.2.2.2.2.2.2.2.2.1, es104.2.2.2.2.2.2.2.2.2.2.1, es104.2.2.2.2.2.2.2.2.2.2.2.1, es104.2.2.2.2.2.2.2.2.2.2.2.2.1, es104.2.2.2.2.2.2.2.2.2.2.2.2.2.1, rfl⟩ (fun s107 Is107 Fs107 (es107 : s107 98 15 = σ2 98 15 ∧ s107 98 16 = σ2 98 16 ∧ s107 98 17 = σ2 98 17 ∧ s107 98 18 = σ2 98 18 ∧ s107 98 13 = 5 ∧ s107 98 14 = (σ2 98 16) ∧ s107 98 5 = σ2 98 5 ∧ s107 98 6 = σ2 98 6 ∧ s107 98 7 = H106 ∧ s107 98 8 = σ2 98 8 ∧ s107 98 9 = σ2 98 9 ∧ s107 101 18 = σ2 101 18 ∧ s107 101 25 = σ2 101 25 ∧ s107 101 43 = σ2 101 43 ∧ s107 = h_up s104 98 7 H106) => ?_))))
      clear es104
      have us107 := es107.2.2.2.2.2.2.2.2.2.2.2.2.2.2
      refine h_aload_n (pc' := 129) rfl rfl rfl ?_
      refine h_call (sp := false) (pc' := 132) (M := [(0, .ref 98)]) rfl rfl rfl rfl rfl rfl rfl rfl ?_
      refine h_aload_n (pc' := 1) rfl rfl rfl ?_
      refine h_getI (pc' := 4) (v := 5) rfl rfl rfl rfl rfl es107.2.2.2.2.1 (fun z108 hz108 => ?_)
      refine h_zle (tg := 8) (pc' := 7) rfl rfl rfl hz108 (fun c109 => absurd c109 (by omega)) (fun c109 => ?_)
      clear hz108
      refine h_vret rfl rfl (h_Kn ?_)
      refine h_aload_n (pc' := 133) rfl rfl rfl ?_
      refine h_getI (pc' := 136) (v := 5) rfl rfl rfl rfl rfl es107.2.2.2.2.1 (fun z110 hz110 => ?_)
      refine h_zle (tg := 140) (pc' := 139) rfl rfl rfl hz110 (fun c111 => absurd c111 (by omega)) (fun c111 => ?_)
      clear hz110
      refine d_toL (g_inj ns) hlw93 hRw93 (fun lvw112 memw112 hlw112 hRw112 => ?_)
      show h_T g_P (g_Y ns) 56 180 [(0, .ref 63), (1, .int x1)] [] s76 _
      exact h_wk [(0, .ref 63)] ⟨rfl, trivial⟩ (kx1 _ _ Is76 Is107 Fs76 Fs107 (Int.le_antisymm (by omega) (by omega)) (Int.le_antisymm (by omega) (by omega)) (Int.le_antisymm (by omega) (by omega)) (by omega) (by omega) ⟨⟨by omega, by omega⟩, ⟨by omega, by omega⟩, Int.le_antisymm (by omega) (by omega), Int.le_antisymm (by omega) (by omega)⟩ _ _ (h_al_ok ⟨rfl, trivial⟩ hlw112) hRw112)
