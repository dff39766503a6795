set_option maxHeartbeats 100000000 in
theorem ls_gat_b {ns : Nat} {σ1 σ2 : h_S} (hI1 : h_I σ1) (hI2 : h_I σ2) (hTL : d_tape σ1 σ2) (y1 : Int32) (c1 : Int) (hy1 : y1.toInt = c1) (pr0 : σ1 64 2 = σ2 98 15) (pr1 : σ1 64 4 = σ2 98 16) (pr2 : σ1 63 2 = σ2 98 13) (pr3 : σ1 66 8 = σ2 98 5) (pr4 : σ1 66 9 = σ2 98 6) (pr5 : σ1 66 10 = σ2 101 43) (pr6 : σ1 69 2 = σ2 101 18) (pr7 : σ1 72 2 = σ2 101 25) (pr8 : σ1 63 5 = σ2 98 7) (pr9 : σ1 64 2 ≤ σ1 64 1) (pr10 : d_RD σ1 σ2) (pr11 : c1 = 6) (pc0 : ((σ1 63 2 = 0) ∧ (σ1 64 3 = 0) ∧ (0 ≤ σ1 66 9 ∧ σ1 66 9 ≤ 2) ∧ (σ2 98 13 = 0) ∧ (σ2 98 17 = 0) ∧ (0 ≤ σ2 98 6 ∧ σ2 98 6 ≤ 2) ∧ (σ1 64 4 = σ1 64 1)) ∨ ((σ1 63 2 = 0) ∧ (σ1 64 3 = 1) ∧ (0 ≤ σ1 66 9 ∧ σ1 66 9 ≤ 2) ∧ (σ2 98 13 = 0) ∧ (σ2 98 17 = 1) ∧ (0 ≤ σ2 98 6 ∧ σ2 98 6 ≤ 2) ∧ (σ1 64 4 < σ1 64 2)) ∨ ((σ1 63 2 = 0) ∧ (σ1 64 3 = 2) ∧ (0 ≤ σ1 66 9 ∧ σ1 66 9 ≤ 2) ∧ (σ2 98 13 = 0) ∧ (σ2 98 17 = 2) ∧ (0 ≤ σ2 98 6 ∧ σ2 98 6 ≤ 2) ∧ (0 ≤ σ1 64 5 ∧ σ1 64 5 ≤ 99) ∧ (0 ≤ σ2 98 18 ∧ σ2 98 18 ≤ 99) ∧ (σ1 64 5 = σ2 98 18) ∧ (σ1 64 4 < σ1 64 2)) ∨ ((σ1 63 2 = 0) ∧ (σ1 64 3 = 3) ∧ (0 ≤ σ1 66 9 ∧ σ1 66 9 ≤ 2) ∧ (σ2 98 13 = 0) ∧ (σ2 98 17 = 3) ∧ (0 ≤ σ2 98 6 ∧ σ2 98 6 ≤ 2) ∧ (σ1 64 4 < σ1 64 2))) {cs1 cs2 : List d_Fr} {Q : d_Q} (kx0 : ∀ (s t : h_S), h_I s → h_I t → h_F (k_in k_pl) s σ1 → h_F (k_in k_pm) t σ2 → (s 64 2 = t 98 15) → (s 64 4 = t 98 16) → (s 63 2 = t 98 13) → (s 64 2 ≤ s 64 1) → (σ1 64 2 ≤ s 64 2) → (d_ok s t) → (((1 ≤ s 63 2 ∧ s 63 2 ≤ 6) ∧ (1 ≤ t 98 13 ∧ t 98 13 ≤ 6) ∧ (s 63 2 = t 98 13) ∧ (s 63 3 = t 98 14)) ∨ ((s 63 2 = 0) ∧ (s 64 3 = 0) ∧ (t 98 13 = 0) ∧ (t 98 17 = 0) ∧ (s 64 4 = s 64 1)) ∨ ((s 63 2 = 0) ∧ (s 64 3 = 1) ∧ (t 98 13 = 0) ∧ (t 98 17 = 1) ∧ (s 64 4 < s 64 2)) ∨ ((s 63 2 = 0) ∧ (s 64 3 = 2) ∧ (t 98 13 = 0) ∧ (t 98 17 = 2) ∧ (0 ≤ s 64 5 ∧ s 64 5 ≤ 99) ∧ (0 ≤ t 98 18 ∧ t 98 18 ≤ 99) ∧ (s 64 5 = t 98 18) ∧ (s 64 4 < s 64 2)) ∨ ((s 63 2 = 0) ∧ (s 64 3 = 3) ∧ (t 98 13 = 0) ∧ (t 98 17 = 3) ∧ (s 64 4 < s 64 2) ∧ ((s 64 2 = σ1 64 2 ∧ s 64 3 = σ1 64 3) ∨ σ1 64 2 < s 64 2))) → ∀ lv2 mem2, h_loc [(0, .ref 98)] lv2 → h_R (g_Y ns) t mem2 → h_T g_P (g_Y ns) 61 61 [(0, .ref 63)] [] s (d_cs g_P (g_Y ns) cs1 (d_L g_P (g_Y ns) (153, 178, lv2, []) cs2 mem2 Q))) : ∀ lv2 mem2, h_loc [(0, .ref 98), (1, .int y1)] lv2 → h_R (g_Y ns) σ2 mem2 → h_T g_P (g_Y ns) 61 20 [(0, .ref 63)] [] σ1 (d_cs g_P (g_Y ns) cs1 (d_L g_P (g_Y ns) (153, 0, lv2, []) cs2 mem2 Q)) := by
  intro lv2 mem2 hl2 hR2
  have hT := hTL.1
  have hL := hTL.2
  have F1 : h_F (k_in k_pl) σ1 σ1 := h_F.rf
  have F2 : h_F (k_in k_pm) σ2 σ2 := h_F.rf
  have ge0 := tf_64_1 hI1
  have ge1 := tf_66_8 hI1
  have ge2 := tf_66_9 hI1
  have ge3 := tf_66_10 hI1
  have ge4 := tf_69_2 hI1
  have ge5 := tf_72_2 hI1
  have ge6 := tf_63_5 hI1
  have ge7 := tf_63_2 hI1
  have ge8 := tf_98_8 hI2
  have ge9 := tf_98_9 hI2
  have ge10 := tf_98_13 hI2
  show h_T g_P (g_Y ns) 61 20 [(0, .ref 63)] [] σ1 _
  refine h_aload_n (pc' := 21) rfl rfl rfl ?_
  refine h_bipush (pc' := 23) (x := (Int32.ofInt 9)) rfl rfl cb_9 ?_
  refine d_toM (g_inj ns) hl2 hR2 (fun lvw21 memw21 hlw21 hRw21 => ?_)
  show h_T g_P (g_Y ns) 153 0 [(0, .ref 98), (1, .int y1)] [] σ2 _
  refine h_iload_n (pc' := 1) rfl rfl rfl ?_
  refine h_iconst (pc' := 2) (x := (Int32.ofInt 3)) rfl rfl rfl ?_
  refine h_cgt (tg := 61) (pc' := 5) rfl rfl rfl hy1 ci_3 (fun c22 => ?_) (fun c22 => absurd c22 (by omega))
  refine h_iload_n (pc' := 62) rfl rfl rfl ?_
  refine h_iconst (pc' := 63) (x := (Int32.ofInt 4)) rfl rfl rfl ?_
  refine h_cne (tg := 82) (pc' := 66) rfl rfl rfl hy1 ci_4 (fun c23 => ?_) (fun c23 => absurd c23 (by omega))
  refine h_iload_n (pc' := 83) rfl rfl rfl ?_
  refine h_iconst (pc' := 84) (x := (Int32.ofInt 5)) rfl rfl rfl ?_
  refine h_cne (tg := 103) (pc' := 87) rfl rfl rfl hy1 ci_5 (fun c24 => ?_) (fun c24 => absurd c24 (by omega))
  refine h_iload_n (pc' := 104) rfl rfl rfl ?_
  refine h_bipush (pc' := 106) (x := (Int32.ofInt 6)) rfl rfl cb_6 ?_
  refine h_cne (tg := 174) (pc' := 109) rfl rfl rfl hy1 ci_6 (fun c25 => absurd (Int.le_antisymm (by omega) (by omega)) c25) (fun c25 => ?_)
  refine h_aload_n (pc' := 110) rfl rfl rfl ?_
  refine h_getR (pc' := 113) rfl rfl rfl rfl rfl ?_
  refine h_bipush (pc' := 115) (x := (Int32.ofInt 26)) rfl rfl cb_26 ?_
  refine h_aload_n (pc' := 116) rfl rfl rfl ?_
  refine h_getI (pc' := 119) (v := σ2 98 6) rfl rfl rfl rfl rfl rfl (fun z26 hz26 => ?_)
  have tz26 := tf_98_6 hI2
  refine h_iadd (pc' := 120) rfl rfl ci_26 hz26 rfl (by omega) (by omega) (fun z27 hz27 => ?_)
  clear hz26
  refine h_aload_n (pc' := 121) rfl rfl rfl ?_
  refine h_iconst (pc' := 122) (x := (Int32.ofInt 0)) rfl rfl rfl ?_
  refine h_bipush (pc' := 124) (x := (Int32.ofInt 9)) rfl rfl cb_9 ?_
  refine d_pcall (g_inj ns) (m1 := 58) (pc1' := 26) (M1 := [(0, .ref 63), (1, .int (Int32.ofInt 9))]) (rest1 := []) (m2 := 149) (pc2' := 127) (M2 := [(0, .ref 98), (1, .int (Int32.ofInt 0)), (2, .int (Int32.ofInt 9))]) (rest2 := [.int z27, .ref 101]) ⟨false, _, _, _, _, _, _, rfl, rfl, rfl, rfl, rfl, rfl, rfl⟩ ⟨false, _, _, _, _, _, _, rfl, rfl, rfl, rfl, rfl, rfl, rfl⟩ hRw21 ?_
  refine pp_num hI1 hI2 (hTL.fr (F1.mono rfl) (F2.mono rfl)) (Int32.ofInt 9) _ ci_9 (Int32.ofInt 9) _ ci_9 (Int.le_antisymm (by omega) (by omega)) (Int.le_antisymm (by omega) (by omega)) (Int.le_antisymm (by omega) (by omega)) (by omega) (Int.le_antisymm (by omega) (by omega)) (⟨by omega, by omega⟩) (pc0.elim (fun pc0 => (Or.inr (Or.inl ⟨Int.le_antisymm (by omega) (by omega), Int.le_antisymm (by omega) (by omega), Int.le_antisymm (by omega) (by omega), Int.le_antisymm (by omega) (by omega), Int.le_antisymm (by omega) (by omega)⟩))) (fun pc0 => (pc0.elim (fun pc0 => (Or.inr (Or.inr (Or.inl ⟨Int.le_antisymm (by omega) (by omega), Int.le_antisymm (by omega) (by omega), Int.le_antisymm (by omega) (by omega), Int.le_antisymm (by omega) (by omega), by omega⟩)))) (fun pc0 => (pc0.elim (fun pc0 => (Or.inr (Or.inr (Or.inr (Or.inl ⟨Int.le_antisymm (by omega) (by omega), Int.le_antisymm (by omega) (by omega), Int.le_antisymm (by omega) (by omega), Int.le_antisymm (by omega) (by omega), ⟨by omega, by omega⟩, ⟨by omega, by omega⟩, Int.le_antisymm (by omega) (by omega), by omega⟩))))) (fun pc0 => (Or.inr (Or.inr (Or.inr (Or.inr ⟨Int.le_antisymm (by omega) (by omega), Int.le_antisymm (by omega) (by omega), Int.le_antisymm (by omega) (by omega), Int.le_antisymm (by omega) (by omega), by omega⟩)))))))))) (fun rq28x bq28x hq28x rq28m bq28m hq28m sq28 tq28 Isq28 Itq28 Gsq28 Gtq28 yq28_0 yq28_1 yq28_2 yq28_3 yq28_4 pcq28 memq28 hRq28 => ?_)
  have Fsq28 := (Gsq28.mono (B := k_pl) rfl).tr F1
  have Ftq28 := (Gtq28.mono (B := k_pm) rfl).tr F2
  have esq28_6 : sq28 64 1 = σ1 64 1 := (Gsq28 64 1 rfl).trans rfl
  have esq28_7 : sq28 66 8 = σ1 66 8 := (Gsq28 66 8 rfl).trans rfl
  have esq28_8 : sq28 66 9 = σ1 66 9 := (Gsq28 66 9 rfl).trans rfl
  have esq28_9 : sq28 66 10 = σ1 66 10 := (Gsq28 66 10 rfl).trans rfl
  have esq28_10 : sq28 69 2 = σ1 69 2 := (Gsq28 69 2 rfl).trans rfl
  have esq28_11 : sq28 72 2 = σ1 72 2 := (Gsq28 72 2 rfl).trans rfl
  have esq28_12 : sq28 63 5 = σ1 63 5 := (Gsq28 63 5 rfl).trans rfl
  have etq28_6 : tq28 98 5 = σ2 98 5 := (Gtq28 98 5 rfl).trans rfl
  have etq28_7 : tq28 98 6 = σ2 98 6 := (Gtq28 98 6 rfl).trans rfl
  have etq28_8 : tq28 98 7 = σ2 98 7 := (Gtq28 98 7 rfl).trans rfl
  have etq28_9 : tq28 98 8 = σ2 98 8 := (Gtq28 98 8 rfl).trans rfl
  have etq28_10 : tq28 98 9 = σ2 98 9 := (Gtq28 98 9 rfl).trans rfl
  have etq28_11 : tq28 101 18 = σ2 101 18 := (Gtq28 101 18 rfl).trans rfl
  have etq28_12 : tq28 101 25 = σ2 101 25 := (Gtq28 101 25 rfl).trans rfl
  have etq28_13 : tq28 101 43 = σ2 101 43 := (Gtq28 101 43 rfl).trans rfl
  rcases pcq28 with pcq28 | pcq28
  · show h_T g_P (g_Y ns) 153 127 [(0, .ref 98), (1, .int y1)] [.int rq28m, .int z27, .ref 101] tq28 _
    refine h_iast (pc' := 128) rfl rfl rfl rfl hz27 (by omega) (by omega) hq28m (h_fgt (E := fun s => s 98 15 = tq28 98 15 ∧ s 98 16 = tq28 98 16 ∧ s 98 17 = tq28 98 17 ∧ s 98 18 = tq28 98 18 ∧ s 98 13 = tq28 98 13 ∧ s 98 14 = tq28 98 14 ∧ s 98 5 = σ2 98 5 ∧ s 98 6 = σ2 98 6 ∧ s 98 7 = σ2 98 7 ∧ s 98 8 = σ2 98 8 ∧ s 98 9 = σ2 98 9 ∧ s 101 18 = σ2 101 18 ∧ s 101 25 = σ2 101 25 ∧ s 101 43 = σ2 101 43 ∧ s = h_up tq28 101 (26 + (σ2 98 6)) bq28m) _ (ip_101_6 Itq28 (by omega) (by omega)) (Ftq28.up rfl) ⟨rfl, rfl, rfl, rfl, rfl, rfl, etq28_6, etq28_7, etq28_8, etq28_9, etq28_10, h_up_n2 (by omega) etq28_11, h_up_n2 (by omega) etq28_12, h_up_n2 (by omega) etq28_13, rfl⟩ (fun s29 Is29 Fs29 (es29 : s29 98 15 = tq28 98 15 ∧ s29 98 16 = tq28 98 16 ∧ s29 98 17 = tq28 98 17 ∧ s29 98 18 = tq28 98 18 ∧ s29 98 13 = tq28 98 13 ∧ s29 98 14 = tq28 98 14 ∧ s29 98 5 = σ2 98 5 ∧ s29 98 6 = σ2 98 6 ∧ s29 98 7 = σ2 98 7 ∧ s29 98 8 = σ2 98 8 ∧ s29 98 9 = σ2 98 9 ∧ s29 101 18 = σ2 101 18 ∧ s29 101 25 = σ2 101 25 ∧ s29 101 43 = σ2 101 43 ∧ s29 = h_up tq28 101 (26 + (σ2 98 6)) bq28m) => ?_))
    have us29 := es29.2.2.2.2.2.2.2.2.2.2.2.2.2.2
    clear hq28m hz27
    refine h_aload_n (pc' := 129) rfl rfl rfl ?_
    refine h_getI (pc' := 132) (v := tq28 98 13) rfl rfl rfl rfl rfl es29.2.2.2.2.1 (fun z30 hz30 => ?_)
    have tz30 := tf_98_13 Itq28
    refine h_zne (tg := 161) (pc' := 135) rfl rfl rfl hz30 (fun c31 => ?_) (fun c31 => absurd c31 (by omega))
    clear hz30
    refine h_aload_n (pc' := 162) rfl rfl rfl ?_
    refine h_dup (pc' := 163) rfl rfl rfl ?_
    refine h_getI (pc' := 166) (v := σ2 98 6) rfl rfl rfl rfl rfl es29.2.2.2.2.2.2.2.1 (fun z32 hz32 => ?_)
    refine h_iconst (pc' := 167) (x := (Int32.ofInt 1)) rfl rfl rfl ?_
    refine h_iadd (pc' := 168) rfl rfl hz32 ci_1 rfl (by omega) (by omega) (fun z33 hz33 => ?_)
    clear hz32
    refine h_put (pc' := 171) rfl rfl rfl rfl rfl rfl hz33 rfl (h_fgt (E := fun s => s 98 15 = tq28 98 15 ∧ s 98 16 = tq28 98 16 ∧ s 98 17 = tq28 98 17 ∧ s 98 18 = tq28 98 18 ∧ s 98 13 = tq28 98 13 ∧ s 98 14 = tq28 98 14 ∧ s 98 5 = σ2 98 5 ∧ s 98 6 = ((σ2 98 6) + 1) ∧ s 98 7 = σ2 98 7 ∧ s 98 8 = σ2 98 8 ∧ s 98 9 = σ2 98 9 ∧ s 101 18 = σ2 101 18 ∧ s 101 25 = σ2 101 25 ∧ s 101 43 = σ2 101 43 ∧ s = h_up s29 98 6 ((σ2 98 6) + 1)) _ (if_98_6 Is29 (by omega)) (Fs29.up rfl) ⟨es29.1, es29.2.1, es29.2.2.1, es29.2.2.2.1, es29.2.2.2.2.1, es29.2.2.2.2.2.1, es29.2.2.2.2.2.2.1, rfl, es29.2.2.2.2.2.2.2.2.1, es29.2.2.2.2.2.2.2.2.2.1, es29.2.2.2.2.2.2.2.2.2.2.1, es29.2.2.2.2.2.2.2.2.2.2.2.1, es29.2.2.2.2.2.2.2.2.2.2.2.2.1, es29.2.2.2.2.2.2.2.2.2.2.2.2.2.1, rfl⟩ (fun s34 Is34 Fs34 (es34 : s34 98 15 = tq28 98 15 ∧ s34 98 16 = tq28 98 16 ∧ s34 98 17 = tq28 98 17 ∧ s34 98 18 = tq28 98 18 ∧ s34 98 13 = tq28 98 13 ∧ s34 98 14 = tq28 98 14 ∧ s34 98 5 = σ2 98 5 ∧ s34 98 6 = ((σ2 98 6) + 1) ∧ s34 98 7 = σ2 98 7 ∧ s34 98 8 = σ2 98 8 ∧ s34 98 9 = σ2 98 9 ∧ s34 101 18 = σ2 101 18 ∧ s34 101 25 = σ2 101 25 ∧ s34 101 43 = σ2 101 43 ∧ s34 = h_up s29 98 6 ((σ2 98 6) + 1)) => ?_))
    clear es29
    have us34 := es34.2.2.2.2.2.2.2.2.2.2.2.2.2.2
    refine h_goto (pc' := 178) rfl rfl ?_
    refine d_toL (g_inj ns) hlw21 hRq28 (fun lvw35 memw35 hlw35 hRw35 => ?_)
    show h_T g_P (g_Y ns) 61 26 [(0, .ref 63)] [.int rq28x] sq28 _
    refine h_istore_n (pc' := 27) (M := [(1, .int rq28x), (0, .ref 63)]) rfl rfl rfl rfl ?_
    refine h_aload_n (pc' := 28) rfl rfl rfl ?_
    refine h_call (sp := false) (pc' := 31) (M := [(0, .ref 63)]) rfl rfl rfl rfl rfl rfl rfl rfl ?_
    refine h_aload_n (pc' := 1) rfl rfl rfl ?_
    refine h_getI (pc' := 4) (v := sq28 63 2) rfl rfl rfl rfl rfl rfl (fun z36 hz36 => ?_)
    have tz36 := tf_63_2 Isq28
    refine h_zne (tg := 22) (pc' := 7) rfl rfl rfl hz36 (fun c37 => ?_) (fun c37 => absurd c37 (by omega))
    clear hz36
    refine h_iconst (pc' := 23) (x := (Int32.ofInt 0)) rfl rfl rfl ?_
    refine h_zret rfl rfl ci_0 (by omega) (h_Kv ?_)
    refine h_zeq (tg := 42) (pc' := 34) rfl rfl rfl ci_0 (fun c38 => ?_) (fun c38 => absurd (Int.le_antisymm (by omega) (by omega)) c38)
    refine h_bipush (pc' := 44) (x := (Int32.ofInt (-4))) rfl rfl cb_m4 ?_
    refine h_istore_n (pc' := 45) (M := [(2, .int (Int32.ofInt (-4))), (1, .int rq28x), (0, .ref 63)]) rfl rfl rfl rfl ?_
    refine h_aload_n (pc' := 46) rfl rfl rfl ?_
    refine h_getI (pc' := 49) (v := sq28 63 2) rfl rfl rfl rfl rfl rfl (fun z39 hz39 => ?_)
    refine h_zne (tg := 61) (pc' := 52) rfl rfl rfl hz39 (fun c40 => ?_) (fun c40 => absurd c40 (by omega))
    clear hz39
    exact h_wk [(0, .ref 63)] ⟨rfl, trivial⟩ (kx0 _ _ Isq28 Is34 Fsq28 Fs34 (Int.le_antisymm (by omega) (by omega)) (Int.le_antisymm (by omega) (by omega)) (Int.le_antisymm (by omega) (by omega)) (by omega) (by omega) (fun h => absurd h (by omega)) (Or.inl ⟨⟨by omega, by omega⟩, ⟨by omega, by omega⟩, Int.le_antisymm (by omega) (by omega), Int.le_antisymm (by omega) (by omega)⟩) _ _ (h_al_ok ⟨rfl, trivial⟩ hlw35) hRw35)
  · show h_T g_P (g_Y ns) 153 127 [(0, .ref 98), (1, .int y1)] [.int rq28m, .int z27, .ref 101] tq28 _
    refine h_iast (pc' := 128) rfl rfl rfl rfl hz27 (by omega) (by omega) hq28m (h_fgt (E := fun s => s 98 15 = tq28 98 15 ∧ s 98 16 = tq28 98 16 ∧ s 98 17 = tq28 98 17 ∧ s 98 18 = tq28 98 18 ∧ s 98 13 = tq28 98 13 ∧ s 98 14 = tq28 98 14 ∧ s 98 5 = σ2 98 5 ∧ s 98 6 = σ2 98 6 ∧ s 98 7 = σ2 98 7 ∧ s 98 8 = σ2 98 8 ∧ s 98 9 = σ2 98 9 ∧ s 101 18 = σ2 101 18 ∧ s 101 25 = σ2 101 25 ∧ s 101 43 = σ2 101 43 ∧ s = h_up tq28 101 (26 + (σ2 98 6)) bq28m) _ (ip_101_6 Itq28 (by omega) (by omega)) (Ftq28.up rfl) ⟨rfl, rfl, rfl, rfl, rfl, rfl, etq28_6, etq28_7, etq28_8, etq28_9, etq28_10, h_up_n2 (by omega) etq28_11, h_up_n2 (by omega) etq28_12, h_up_n2 (by omega) etq28_13, rfl⟩ (fun s41 Is41 Fs41 (es41 : s41 98 15 = tq28 98 15 ∧ s41 98 16 = tq28 98 16 ∧ s41 98 17 = tq28 98 17 ∧ s41 98 18 = tq28 98 18 ∧ s41 98 13 = tq28 98 13 ∧ s41 98 14 = tq28 98 14 ∧ s41 98 5 = σ2 98 5 ∧ s41 98 6 = σ2 98 6 ∧ s41 98 7 = σ2 98 7 ∧ s41 98 8 = σ2 98 8 ∧ s41 98 9 = σ2 98 9 ∧ s41 101 18 = σ2 101 18 ∧ s41 101 25 = σ2 101 25 ∧ s41 101 43 = σ2 101 43 ∧ s41 = h_up tq28 101 (26 + (σ2 98 6)) bq28m) => ?_))
    have us41 := es41.2.2.2.2.2.2.2.2.2.2.2.2.2.2
    clear hq28m hz27
    refine d_toL (g_inj ns) hlw21 hRq28 (fun lvw42 memw42 hlw42 hRw42 => ?_)
    show h_T g_P (g_Y ns) 61 26 [(0, .ref 63)] [.int rq28x] sq28 _
    refine h_istore_n (pc' := 27) (M := [(1, .int rq28x), (0, .ref 63)]) rfl rfl rfl rfl ?_
    refine h_wk [(0, .ref 63), (1, .int rq28x)] ⟨rfl, rfl, trivial⟩ (ls_gat_c Isq28 Is41 (hTL.fr (Fsq28.mono rfl) (Fs41.mono rfl)) rq28x _ hq28x  (Int.le_antisymm (by omega) (by omega)) (Int.le_antisymm (by omega) (by omega)) (Int.le_antisymm (by omega) (by omega)) (Int.le_antisymm (by omega) (by omega)) (Int.le_antisymm (by omega) (by omega)) (Int.le_antisymm (by omega) (by omega)) (Int.le_antisymm (by omega) (by omega)) (Int.le_antisymm (by omega) (by omega)) (Int.le_antisymm (by omega) (by omega)) (by omega) (d_mk (esq28_7) (esq28_8) (esq28_9) (esq28_10) (esq28_11) (esq28_12) (fun j => (Gsq28 67 j rfl)) (fun j => (Gsq28 68 j rfl)) (fun j => (Gsq28 70 j rfl)) (fun j => (Gsq28 71 j rfl)) (fun j => (Gsq28 73 j rfl)) (fun j => (Gsq28 74 j rfl)) (fun j => (Gsq28 75 j rfl)) (fun j => (Gsq28 76 j rfl)) (fun j => (Gsq28 77 j rfl)) (fun j => (Gsq28 78 j rfl)) (es41.2.2.2.2.2.2.1) (es41.2.2.2.2.2.2.2.1) (es41.2.2.2.2.2.2.2.2.1) (es41.2.2.2.2.2.2.2.2.2.1) (es41.2.2.2.2.2.2.2.2.2.2.1) (fun j => (h_upi us41 j).trans (congrArg (fun z => if j = (26 + (σ2 98 6)) then bq28m else z) ((Gtq28 101 j rfl)))) (r_g0 pr10 (by omega) (by omega) (by omega) (by omega) (by omega) (by omega) (by omega))) (h_up26 us41 (by omega) (by omega)) (⟨by omega, by omega⟩) (pcq28.elim (fun pcq28 => (Or.inl ⟨Int.le_antisymm (by omega) (by omega), Int.le_antisymm (by omega) (by omega), ⟨by omega, by omega⟩, Int.le_antisymm (by omega) (by omega), Int.le_antisymm (by omega) (by omega), ⟨by omega, by omega⟩, Int.le_antisymm (by omega) (by omega)⟩)) (fun pcq28 => (pcq28.elim (fun pcq28 => (Or.inr (Or.inl ⟨Int.le_antisymm (by omega) (by omega), Int.le_antisymm (by omega) (by omega), ⟨by omega, by omega⟩, Int.le_antisymm (by omega) (by omega), Int.le_antisymm (by omega) (by omega), ⟨by omega, by omega⟩, by omega⟩))) (fun pcq28 => (pcq28.elim (fun pcq28 => (Or.inr (Or.inr (Or.inl ⟨Int.le_antisymm (by omega) (by omega), Int.le_antisymm (by omega) (by omega), ⟨by omega, by omega⟩, Int.le_antisymm (by omega) (by omega), Int.le_antisymm (by omega) (by omega), ⟨by omega, by omega⟩, ⟨by omega, by omega⟩, ⟨by omega, by omega⟩, Int.le_antisymm (by omega) (by omega), by omega⟩)))) (fun pcq28 => (Or.inr (Or.inr (Or.inr ⟨Int.le_antisymm (by omega) (by omega), Int.le_antisymm (by omega) (by omega), ⟨by omega, by omega⟩, Int.le_antisymm (by omega) (by omega), Int.le_antisymm (by omega) (by omega), ⟨by omega, by omega⟩, by omega⟩))))))))) (fun sq43 tq43 Isq43 Itq43 Gsq43 Gtq43   yq43_0 yq43_1 yq43_2 yq43_3 yq43_4 yq43_5 pcq43 lvq43 memq43 hlq43 hRq43 => ?_) _ _ (h_al_ok ⟨rfl, trivial⟩ hlw42) hRw42)
    · have Fsq43 := (Gsq43.mono (B := k_pl) rfl).tr Fsq28
      have Ftq43 := (Gtq43.mono (B := k_pm) rfl).tr Fs41
      have Isq43 := Isq43
      have Itq43 := Itq43
      have Gsq43 := Gsq43
      have Gtq43 := Gtq43
      have esq43_6 : sq43 64 1 = σ1 64 1 := (Gsq43 64 1 rfl).trans esq28_6
      show h_T g_P (g_Y ns) 61 61 [(0, .ref 63)] [] sq43 _
      clear hq28x
      refine d_toM (g_inj ns) hlq43 hRq43 (fun lvw44 memw44 hlw44 hRw44 => ?_)
      show h_T g_P (g_Y ns) 153 178 [(0, .ref 98)] [] tq43 _
      refine d_toL (g_inj ns) hlw44 hRw44 (fun lvw45 memw45 hlw45 hRw45 => ?_)
      show h_T g_P (g_Y ns) 61 61 [(0, .ref 63)] [] sq43 _
      exact h_wk [(0, .ref 63)] ⟨rfl, trivial⟩ (kx0 _ _ Isq43 Itq43 Fsq43 Ftq43 (Int.le_antisymm (by omega) (by omega)) (Int.le_antisymm (by omega) (by omega)) (Int.le_antisymm (by omega) (by omega)) (by omega) (by omega) (yq43_5) (pcq43.elim (fun pcq43 => (Or.inl ⟨⟨by omega, by omega⟩, ⟨by omega, by omega⟩, Int.le_antisymm (by omega) (by omega), Int.le_antisymm (by omega) (by omega)⟩)) (fun pcq43 => (pcq43.elim (fun pcq43 => (Or.inr (Or.inl ⟨Int.le_antisymm (by omega) (by omega), Int.le_antisymm (by omega) (by omega), Int.le_antisymm (by omega) (by omega), Int.le_antisymm (by omega) (by omega), Int.le_antisymm (by omega) (by omega)⟩))) (fun pcq43 => (pcq43.elim (fun pcq43 => (Or.inr (Or.inr (Or.inl ⟨Int.le_antisymm (by omega) (by omega), Int.le_antisymm (by omega) (by omega), Int.le_antisymm (by omega) (by omega), Int.le_antisymm (by omega) (by omega), by omega⟩)))) (fun pcq43 => (pcq43.elim (fun pcq43 => (Or.inr (Or.inr (Or.inr (Or.inl ⟨Int.le_antisymm (by omega) (by omega), Int.le_antisymm (by omega) (by omega), Int.le_antisymm (by omega) (by omega), Int.le_antisymm (by omega) (by omega), ⟨by omega, by omega⟩, ⟨by omega, by omega⟩, Int.le_antisymm (by omega) (by omega), by omega⟩))))) (fun pcq43 => (Or.inr (Or.inr (Or.inr (Or.inr ⟨Int.le_antisymm (by omega) (by omega), Int.le_antisymm (by omega) (by omega), Int.le_antisymm (by omega) (by omega), Int.le_antisymm (by omega) (by omega), by omega, by omega⟩)))))))))))) _ _ (h_al_ok ⟨rfl, trivial⟩ hlw45) hRw45)
