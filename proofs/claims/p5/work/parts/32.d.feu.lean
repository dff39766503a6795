set_option maxHeartbeats 100000000 in
theorem ls_feu_c {ns : Nat} {σ1 σ2 : h_S} (hI1 : h_I σ1) (hI2 : h_I σ2) (hTL : d_tape σ1 σ2) (x2 : Int32) (a2 : Int) (hx2 : x2.toInt = a2) (y2 : Int32) (c2 : Int) (hy2 : y2.toInt = c2) (y3 : Int32) (c3 : Int) (hy3 : y3.toInt = c3) (H0 : Int) (pr0 : σ1 64 2 = σ2 98 15) (pr1 : σ1 64 4 = σ2 98 16) (pr2 : σ1 63 2 = σ2 98 13) (pr3 : σ1 66 8 = σ2 98 5) (pr4 : σ1 66 9 = σ2 98 6) (pr5 : σ1 66 10 = σ2 101 43) (pr6 : σ1 69 2 = σ2 101 18) (pr7 : σ1 72 2 = σ2 101 25) (pr8 : σ1 63 5 = σ2 98 7) (pr9 : σ1 64 2 ≤ σ1 64 1) (pr10 : d_RH σ1 σ2 H0) (pr11 : a2 = c3) (pr12 : 0 ≤ a2 ∧ a2 ≤ 5) (pr13 : c2 = σ2 101 25) (pr14 : H0 ≤ σ2 98 8) (pr15 : c3 ≤ σ2 98 8) (pr16 : σ2 98 8 = H0 ∨ σ2 98 8 = c3) (pc0 : ((σ1 63 2 = 0) ∧ (σ1 64 3 = 0) ∧ (0 ≤ σ1 72 2 ∧ σ1 72 2 ≤ 2) ∧ (σ2 98 13 = 0) ∧ (σ2 98 17 = 0) ∧ (0 ≤ σ2 101 25 ∧ σ2 101 25 ≤ 2) ∧ (σ1 64 4 = σ1 64 1)) ∨ ((σ1 63 2 = 0) ∧ (σ1 64 3 = 1) ∧ (0 ≤ σ1 72 2 ∧ σ1 72 2 ≤ 2) ∧ (σ2 98 13 = 0) ∧ (σ2 98 17 = 1) ∧ (0 ≤ σ2 101 25 ∧ σ2 101 25 ≤ 2) ∧ (σ1 64 4 < σ1 64 2)) ∨ ((σ1 63 2 = 0) ∧ (σ1 64 3 = 2) ∧ (0 ≤ σ1 72 2 ∧ σ1 72 2 ≤ 2) ∧ (σ2 98 13 = 0) ∧ (σ2 98 17 = 2) ∧ (0 ≤ σ2 101 25 ∧ σ2 101 25 ≤ 2) ∧ (0 ≤ σ1 64 5 ∧ σ1 64 5 ≤ 99) ∧ (0 ≤ σ2 98 18 ∧ σ2 98 18 ≤ 99) ∧ (σ1 64 5 = σ2 98 18) ∧ (σ1 64 4 < σ1 64 2)) ∨ ((σ1 63 2 = 0) ∧ (σ1 64 3 = 3) ∧ (0 ≤ σ1 72 2 ∧ σ1 72 2 ≤ 2) ∧ (σ2 98 13 = 0) ∧ (σ2 98 17 = 3) ∧ (0 ≤ σ2 101 25 ∧ σ2 101 25 ≤ 2) ∧ (σ1 64 4 < σ1 64 2))) {cs1 cs2 : List d_Fr} {Q : d_Q} (kx0 : ∀ (s t : h_S), h_I s → h_I t → h_F (k_in k_pl) s σ1 → h_F (k_in k_pm) t σ2 → (s 64 2 = t 98 15) → (s 64 4 = t 98 16) → (s 63 2 = t 98 13) → (s 64 2 ≤ s 64 1) → (σ1 64 2 ≤ s 64 2) → (d_ok s t) → (((1 ≤ s 63 2 ∧ s 63 2 ≤ 6) ∧ (1 ≤ t 98 13 ∧ t 98 13 ≤ 6) ∧ (s 63 2 = t 98 13) ∧ (s 63 3 = t 98 14)) ∨ ((s 63 2 = 0) ∧ (s 64 3 = 0) ∧ (t 98 13 = 0) ∧ (t 98 17 = 0) ∧ (s 64 4 = s 64 1)) ∨ ((s 63 2 = 0) ∧ (s 64 3 = 1) ∧ (t 98 13 = 0) ∧ (t 98 17 = 1) ∧ (s 64 4 < s 64 2)) ∨ ((s 63 2 = 0) ∧ (s 64 3 = 2) ∧ (t 98 13 = 0) ∧ (t 98 17 = 2) ∧ (0 ≤ s 64 5 ∧ s 64 5 ≤ 99) ∧ (0 ≤ t 98 18 ∧ t 98 18 ≤ 99) ∧ (s 64 5 = t 98 18) ∧ (s 64 4 < s 64 2)) ∨ ((s 63 2 = 0) ∧ (s 64 3 = 3) ∧ (t 98 13 = 0) ∧ (t 98 17 = 3) ∧ (s 64 4 < s 64 2) ∧ ((s 64 2 = σ1 64 2 ∧ s 64 3 = σ1 64 3) ∨ σ1 64 2 < s 64 2))) → ∀ lv2 mem2, h_loc [(0, .ref 98)] lv2 → h_R (g_Y ns) t mem2 → h_T g_P (g_Y ns) 60 64 [(0, .ref 63)] [] s (d_cs g_P (g_Y ns) cs1 (d_L g_P (g_Y ns) (151, 73, lv2, []) cs2 mem2 Q))) : ∀ lv2 mem2, h_loc [(0, .ref 98), (1, .int (Int32.ofInt 19)), (2, .int y2), (3, .int y3)] lv2 → h_R (g_Y ns) σ2 mem2 → h_T g_P (g_Y ns) 60 14 [(0, .ref 63), (1, .ref 72), (2, .int x2)] [] σ1 (d_cs g_P (g_Y ns) cs1 (d_L g_P (g_Y ns) (151, 5, lv2, []) cs2 mem2 Q)) := by
  intro lv2 mem2 hl2 hR2
  have hT := hTL.1
  have hL := hTL.2
  have F1 : h_F (k_in k_pl) σ1 σ1 := h_F.rf
  have F2 : h_F (k_in k_pm) σ2 σ2 := h_F.rf
  have ge0 := tf_64_1 hI1
  have ge1 := tf_66_8 hI1
  have ge2 := tf_66_9 hI1
  have ge3 := tf_66_10 hI1
  have ge4 := tf_69_2 hI1
  have ge5 := tf_72_2 hI1
  have ge6 := tf_63_5 hI1
  have ge7 := tf_63_2 hI1
  have ge8 := tf_98_8 hI2
  have ge9 := tf_98_9 hI2
  have ge10 := tf_98_13 hI2
  rcases pc0 with pc0 | pc0 | pc0 | pc0
  · show h_T g_P (g_Y ns) 60 14 [(0, .ref 63), (1, .ref 72), (2, .int x2)] [] σ1 _
    refine h_aload_n (pc' := 15) rfl rfl rfl ?_
    refine h_call (sp := false) (pc' := 18) (M := [(0, .ref 63)]) rfl rfl rfl rfl rfl rfl rfl rfl ?_
    refine h_aload_n (pc' := 1) rfl rfl rfl ?_
    refine h_getI (pc' := 4) (v := σ1 63 2) rfl rfl rfl rfl rfl rfl (fun z21 hz21 => ?_)
    have tz21 := tf_63_2 hI1
    refine h_zne (tg := 22) (pc' := 7) rfl rfl rfl hz21 (fun c22 => absurd c22 (by omega)) (fun c22 => ?_)
    clear hz21
    refine h_aload_n (pc' := 8) rfl rfl rfl ?_
    refine h_getR (pc' := 11) rfl rfl rfl rfl rfl ?_
    refine h_getI (pc' := 14) (v := σ1 64 3) rfl rfl rfl rfl rfl rfl (fun z23 hz23 => ?_)
    have tz23 := tf_64_3 hI1
    refine h_iconst (pc' := 15) (x := (Int32.ofInt 2)) rfl rfl rfl ?_
    refine h_cne (tg := 22) (pc' := 18) rfl rfl rfl hz23 ci_2 (fun c24 => ?_) (fun c24 => absurd c24 (by omega))
    clear hz23
    refine h_iconst (pc' := 23) (x := (Int32.ofInt 0)) rfl rfl rfl ?_
    refine h_zret rfl rfl ci_0 (by omega) (h_Kv ?_)
    refine h_zeq (tg := 44) (pc' := 21) rfl rfl rfl ci_0 (fun c25 => ?_) (fun c25 => absurd c25 (by omega))
    refine h_aload_n (pc' := 45) rfl rfl rfl ?_
    refine h_iconst (pc' := 46) (x := (Int32.ofInt 5)) rfl rfl rfl ?_
    refine d_toM (g_inj ns) hl2 hR2 (fun lvw26 memw26 hlw26 hRw26 => ?_)
    show h_T g_P (g_Y ns) 151 5 [(0, .ref 98), (1, .int (Int32.ofInt 19)), (2, .int y2), (3, .int y3)] [] σ2 _
    refine h_aload_n (pc' := 6) rfl rfl rfl ?_
    refine h_getI (pc' := 9) (v := σ2 98 13) rfl rfl rfl rfl rfl rfl (fun z27 hz27 => ?_)
    have tz27 := tf_98_13 hI2
    refine h_zne (tg := 33) (pc' := 12) rfl rfl rfl hz27 (fun c28 => absurd c28 (by omega)) (fun c28 => ?_)
    clear hz27
    refine h_aload_n (pc' := 13) rfl rfl rfl ?_
    refine h_getI (pc' := 16) (v := σ2 98 17) rfl rfl rfl rfl rfl rfl (fun z29 hz29 => ?_)
    have tz29 := tf_98_17 hI2
    refine h_iconst (pc' := 17) (x := (Int32.ofInt 2)) rfl rfl rfl ?_
    refine h_cne (tg := 33) (pc' := 20) rfl rfl rfl hz29 ci_2 (fun c30 => ?_) (fun c30 => absurd c30 (by omega))
    clear hz29
    refine h_aload_n (pc' := 34) rfl rfl rfl ?_
    refine h_getR (pc' := 37) rfl rfl rfl rfl rfl ?_
    refine h_iload_n (pc' := 38) rfl rfl rfl ?_
    refine h_iconst (pc' := 39) (x := (Int32.ofInt 2)) rfl rfl rfl ?_
    refine h_iload_n (pc' := 40) rfl rfl rfl ?_
    refine h_imul (pc' := 41) rfl rfl ci_2 hy2 rfl (by omega) (by omega) (fun z31 hz31 => ?_)
    refine h_iadd (pc' := 42) rfl rfl ci_19 hz31 rfl (by omega) (by omega) (fun z32 hz32 => ?_)
    clear hz31
    refine h_iload_n (pc' := 43) rfl rfl rfl ?_
    refine h_iast (pc' := 44) rfl rfl rfl rfl hz32 (by omega) (by omega) hy3 (h_fgt (E := fun s => s 98 15 = σ2 98 15 ∧ s 98 16 = σ2 98 16 ∧ s 98 17 = σ2 98 17 ∧ s 98 18 = σ2 98 18 ∧ s 98 13 = σ2 98 13 ∧ s 98 14 = σ2 98 14 ∧ s 98 5 = σ2 98 5 ∧ s 98 6 = σ2 98 6 ∧ s 98 7 = σ2 98 7 ∧ s 98 8 = σ2 98 8 ∧ s 98 9 = σ2 98 9 ∧ s 101 18 = σ2 101 18 ∧ s 101 25 = σ2 101 25 ∧ s 101 43 = σ2 101 43 ∧ s = h_up σ2 101 (19 + (2 * c2)) c3) _ (ip_101_4 hI2 (by omega) (by omega)) (F2.up rfl) ⟨rfl, rfl, rfl, rfl, rfl, rfl, rfl, rfl, rfl, rfl, rfl, h_up_n2 (by omega) rfl, h_up_n2 (by omega) rfl, h_up_n2 (by omega) rfl, rfl⟩ (fun s33 Is33 Fs33 (es33 : s33 98 15 = σ2 98 15 ∧ s33 98 16 = σ2 98 16 ∧ s33 98 17 = σ2 98 17 ∧ s33 98 18 = σ2 98 18 ∧ s33 98 13 = σ2 98 13 ∧ s33 98 14 = σ2 98 14 ∧ s33 98 5 = σ2 98 5 ∧ s33 98 6 = σ2 98 6 ∧ s33 98 7 = σ2 98 7 ∧ s33 98 8 = σ2 98 8 ∧ s33 98 9 = σ2 98 9 ∧ s33 101 18 = σ2 101 18 ∧ s33 101 25 = σ2 101 25 ∧ s33 101 43 = σ2 101 43 ∧ s33 = h_up σ2 101 (19 + (2 * c2)) c3) => ?_))
    clear hz32
    refine h_aload_n (pc' := 45) rfl rfl rfl ?_
    refine h_getR (pc' := 48) rfl rfl rfl rfl rfl ?_
    refine h_iload_n (pc' := 49) rfl rfl rfl ?_
    refine h_iconst (pc' := 50) (x := (Int32.ofInt 2)) rfl rfl rfl ?_
    refine h_iload_n (pc' := 51) rfl rfl rfl ?_
    refine h_imul (pc' := 52) rfl rfl ci_2 hy2 rfl (by omega) (by omega) (fun z34 hz34 => ?_)
    refine h_iadd (pc' := 53) rfl rfl ci_19 hz34 rfl (by omega) (by omega) (fun z35 hz35 => ?_)
    clear hz34
    refine h_iconst (pc' := 54) (x := (Int32.ofInt 1)) rfl rfl rfl ?_
    refine h_iadd (pc' := 55) rfl rfl hz35 ci_1 rfl (by omega) (by omega) (fun z36 hz36 => ?_)
    clear hz35
    refine h_aload_n (pc' := 56) rfl rfl rfl ?_
    refine d_call (g_inj ns) (pc' := 59) (m := 150) (M := [(0, .ref 98)]) (rest := [.int z36, .ref 101]) ⟨false, _, _, _, _, _, _, rfl, rfl, rfl, rfl, rfl, rfl, rfl⟩ (fun lv37 hlv37 => ?_)
    refine h_aload_n (pc' := 1) rfl rfl rfl ?_
    refine h_iconst (pc' := 2) (x := (Int32.ofInt 0)) rfl rfl rfl ?_
    refine h_iconst (pc' := 3) (x := (Int32.ofInt 5)) rfl rfl rfl ?_
    refine d_pcall (g_inj ns) (m1 := 58) (pc1' := 49) (M1 := [(0, .ref 63), (1, .int (Int32.ofInt 5))]) (rest1 := []) (m2 := 149) (pc2' := 6) (M2 := [(0, .ref 98), (1, .int (Int32.ofInt 0)), (2, .int (Int32.ofInt 5))]) (rest2 := []) ⟨false, _, _, _, _, _, _, rfl, rfl, rfl, rfl, rfl, rfl, rfl⟩ ⟨false, _, _, _, _, _, _, rfl, rfl, rfl, rfl, rfl, rfl, rfl⟩ hRw26 ?_
    refine pp_num hI1 Is33 (hTL.fr (F1.mono rfl) (Fs33.mono rfl)) (Int32.ofInt 5) _ ci_5 (Int32.ofInt 5) _ ci_5 (by omega) (by omega) (by omega) (by omega) (by omega) (by omega) (Or.inr (Or.inl ⟨by omega, by omega, by omega, by omega, by omega⟩)) (fun rq38x bq38x hq38x rq38m bq38m hq38m sq38 tq38 Isq38 Itq38 Gsq38 Gtq38 yq38_0 yq38_1 yq38_2 yq38_3 yq38_4 pcq38 memq38 hRq38 => ?_)
    have Fsq38 := (Gsq38.mono (B := k_pl) rfl).tr F1
    have Ftq38 := (Gtq38.mono (B := k_pm) rfl).tr Fs33
    have esq38_6 : sq38 64 1 = σ1 64 1 := (Gsq38 64 1 rfl).trans rfl
    have esq38_7 : sq38 66 8 = σ1 66 8 := (Gsq38 66 8 rfl).trans rfl
    have esq38_8 : sq38 66 9 = σ1 66 9 := (Gsq38 66 9 rfl).trans rfl
    have esq38_9 : sq38 66 10 = σ1 66 10 := (Gsq38 66 10 rfl).trans rfl
    have esq38_10 : sq38 69 2 = σ1 69 2 := (Gsq38 69 2 rfl).trans rfl
    have esq38_11 : sq38 72 2 = σ1 72 2 := (Gsq38 72 2 rfl).trans rfl
    have esq38_12 : sq38 63 5 = σ1 63 5 := (Gsq38 63 5 rfl).trans rfl
    have etq38_6 : tq38 98 5 = σ2 98 5 := (Gtq38 98 5 rfl).trans es33.2.2.2.2.2.2.1
    have etq38_7 : tq38 98 6 = σ2 98 6 := (Gtq38 98 6 rfl).trans es33.2.2.2.2.2.2.2.1
    have etq38_8 : tq38 98 7 = σ2 98 7 := (Gtq38 98 7 rfl).trans es33.2.2.2.2.2.2.2.2.1
    have etq38_9 : tq38 98 8 = σ2 98 8 := (Gtq38 98 8 rfl).trans es33.2.2.2.2.2.2.2.2.2.1
    have etq38_10 : tq38 98 9 = σ2 98 9 := (Gtq38 98 9 rfl).trans es33.2.2.2.2.2.2.2.2.2.2.1
    have etq38_11 : tq38 101 18 = σ2 101 18 := (Gtq38 101 18 rfl).trans es33.2.2.2.2.2.2.2.2.2.2.2.1
    have etq38_12 : tq38 101 25 = σ2 101 25 := (Gtq38 101 25 rfl).trans es33.2.2.2.2.2.2.2.2.2.2.2.2.1
    have etq38_13 : tq38 101 43 = σ2 101 43 := (Gtq38 101 43 rfl).trans es33.2.2.2.2.2.2.2.2.2.2.2.2.2.1
    rcases pcq38 with pcq38 | pcq38
    · show h_T g_P (g_Y ns) 150 6 [(0, .ref 98)] [.int rq38m] tq38 _
      refine h_istore_n (pc' := 7) (M := [(1, .int rq38m), (0, .ref 98)]) rfl rfl rfl rfl ?_
      have oH39 : tq38 98 8 = σ2 98 8 := etq38_9
      have uH39 := tf_98_8 Itq38
      refine h_wk [(0, .ref 98), (1, .int rq38m)] ⟨rfl, rfl, trivial⟩ (lm_hi _ Itq38 rq38m _ hq38m (by omega) (fun H39 hH39 => (h_fgt (E := fun s => s 98 15 = tq38 98 15 ∧ s 98 16 = tq38 98 16 ∧ s 98 17 = tq38 98 17 ∧ s 98 18 = tq38 98 18 ∧ s 98 13 = tq38 98 13 ∧ s 98 14 = tq38 98 14 ∧ s 98 5 = σ2 98 5 ∧ s 98 6 = σ2 98 6 ∧ s 98 7 = σ2 98 7 ∧ s 98 8 = H39 ∧ s 98 9 = σ2 98 9 ∧ s 101 18 = σ2 101 18 ∧ s 101 25 = σ2 101 25 ∧ s 101 43 = σ2 101 43 ∧ s = h_up tq38 98 8 H39) _ (if_98_8 Itq38 (by omega)) (Ftq38.up rfl) ⟨rfl, rfl, rfl, rfl, rfl, rfl, etq38_6, etq38_7, etq38_8, rfl, etq38_10, etq38_11, etq38_12, etq38_13, rfl⟩ (fun s40 Is40 Fs40 (es40 : s40 98 15 = tq38 98 15 ∧ s40 98 16 = tq38 98 16 ∧ s40 98 17 = tq38 98 17 ∧ s40 98 18 = tq38 98 18 ∧ s40 98 13 = tq38 98 13 ∧ s40 98 14 = tq38 98 14 ∧ s40 98 5 = σ2 98 5 ∧ s40 98 6 = σ2 98 6 ∧ s40 98 7 = σ2 98 7 ∧ s40 98 8 = H39 ∧ s40 98 9 = σ2 98 9 ∧ s40 101 18 = σ2 101 18 ∧ s40 101 25 = σ2 101 25 ∧ s40 101 43 = σ2 101 43 ∧ s40 = h_up tq38 98 8 H39) => ?_))))
      refine h_iload_n (pc' := 28) rfl rfl rfl ?_
      refine h_iret rfl rfl (d_ret hlv37 ?_)
      refine h_iast (pc' := 60) rfl rfl rfl rfl hz36 (by omega) (by omega) hq38m (h_fgt (E := fun s => s 98 15 = tq38 98 15 ∧ s 98 16 = tq38 98 16 ∧ s 98 17 = tq38 98 17 ∧ s 98 18 = tq38 98 18 ∧ s 98 13 = tq38 98 13 ∧ s 98 14 = tq38 98 14 ∧ s 98 5 = σ2 98 5 ∧ s 98 6 = σ2 98 6 ∧ s 98 7 = σ2 98 7 ∧ s 98 8 = H39 ∧ s 98 9 = σ2 98 9 ∧ s 101 18 = σ2 101 18 ∧ s 101 25 = σ2 101 25 ∧ s 101 43 = σ2 101 43 ∧ s = h_up s40 101 ((19 + (2 * c2)) + 1) bq38m) _ (ip_101_4 Is40 (by omega) (by omega)) (Fs40.up rfl) ⟨es40.1, es40.2.1, es40.2.2.1, es40.2.2.2.1, es40.2.2.2.2.1, es40.2.2.2.2.2.1, es40.2.2.2.2.2.2.1, es40.2.2.2.2.2.2.2.1, es40.2.2.2.2.2.2.2.2.1, es40.2.2.2.2.2.2.2.2.2.1, es40.2.2.2.2.2.2.2.2.2.2.1, h_up_n2 (by omega) es40.2.2.2.2.2.2.2.2.2.2.2.1, h_up_n2 (by omega) es40.2.2.2.2.2.2.2.2.2.2.2.2.1, h_up_n2 (by omega) es40.2.2.2.2.2.2.2.2.2.2.2.2.2.1, rfl⟩ (fun s41 Is41 Fs41 (es41 : s41 98 15 = tq38 98 15 ∧ s41 98 16 = tq38 98 16 ∧ s41 98 17 = tq38 98 17 ∧ s41 98 18 = tq38 98 18 ∧ s41 98 13 = tq38 98 13 ∧ s41 98 14 = tq38 98 14 ∧ s41 98 5 = σ2 98 5 ∧ s41 98 6 = σ2 98 6 ∧ s41 98 7 = σ2 98 7 ∧ s41 98 8 = H39 ∧ s41 98 9 = σ2 98 9 ∧ s41 101 18 = σ2 101 18 ∧ s41 101 25 = σ2 101 25 ∧ s41 101 43 = σ2 101 43 ∧ s41 = h_up s40 101 ((19 + (2 * c2)) + 1) bq38m) => ?_))
      clear hq38m hz36
      refine h_aload_n (pc' := 61) rfl rfl rfl ?_
      refine h_getR (pc' := 64) rfl rfl rfl rfl rfl ?_
      refine h_iload_n (pc' := 65) rfl rfl rfl ?_
      refine h_bipush (pc' := 67) (x := (Int32.ofInt 6)) rfl rfl cb_6 ?_
      refine h_iadd (pc' := 68) (c := 25) rfl rfl ci_19 ci_6 rfl (by omega) (by omega) (fun z42 hz42 => ?_)
      refine h_dup2 (pc' := 69) rfl rfl rfl ?_
      refine h_iald (pc' := 70) (v := σ2 101 25) rfl rfl rfl hz42 (by omega) (by omega) es41.2.2.2.2.2.2.2.2.2.2.2.2.1 (fun z43 hz43 => ?_)
      have tz43 := ty_101_5 hI2 25 (by omega)
      refine h_iconst (pc' := 71) (x := (Int32.ofInt 1)) rfl rfl rfl ?_
      refine h_iadd (pc' := 72) rfl rfl hz43 ci_1 rfl (by omega) (by omega) (fun z44 hz44 => ?_)
      clear hz43
      refine h_iast (pc' := 73) rfl rfl rfl rfl hz42 (by omega) (by omega) hz44 (h_fgt (E := fun s => s 98 15 = tq38 98 15 ∧ s 98 16 = tq38 98 16 ∧ s 98 17 = tq38 98 17 ∧ s 98 18 = tq38 98 18 ∧ s 98 13 = tq38 98 13 ∧ s 98 14 = tq38 98 14 ∧ s 98 5 = σ2 98 5 ∧ s 98 6 = σ2 98 6 ∧ s 98 7 = σ2 98 7 ∧ s 98 8 = H39 ∧ s 98 9 = σ2 98 9 ∧ s 101 18 = σ2 101 18 ∧ s 101 25 = ((σ2 101 25) + 1) ∧ s 101 43 = σ2 101 43 ∧ s = h_up s41 101 25 ((σ2 101 25) + 1)) _ (ip_101_5 Is41 (by omega) (by omega)) (Fs41.up rfl) ⟨es41.1, es41.2.1, es41.2.2.1, es41.2.2.2.1, es41.2.2.2.2.1, es41.2.2.2.2.2.1, es41.2.2.2.2.2.2.1, es41.2.2.2.2.2.2.2.1, es41.2.2.2.2.2.2.2.2.1, es41.2.2.2.2.2.2.2.2.2.1, es41.2.2.2.2.2.2.2.2.2.2.1, es41.2.2.2.2.2.2.2.2.2.2.2.1, rfl, es41.2.2.2.2.2.2.2.2.2.2.2.2.2.1, rfl⟩ (fun s45 Is45 Fs45 (es45 : s45 98 15 = tq38 98 15 ∧ s45 98 16 = tq38 98 16 ∧ s45 98 17 = tq38 98 17 ∧ s45 98 18 = tq38 98 18 ∧ s45 98 13 = tq38 98 13 ∧ s45 98 14 = tq38 98 14 ∧ s45 98 5 = σ2 98 5 ∧ s45 98 6 = σ2 98 6 ∧ s45 98 7 = σ2 98 7 ∧ s45 98 8 = H39 ∧ s45 98 9 = σ2 98 9 ∧ s45 101 18 = σ2 101 18 ∧ s45 101 25 = ((σ2 101 25) + 1) ∧ s45 101 43 = σ2 101 43 ∧ s45 = h_up s41 101 25 ((σ2 101 25) + 1)) => ?_))
      clear hz42
      refine d_toL (g_inj ns) hlw26 hRq38 (fun lvw46 memw46 hlw46 hRw46 => ?_)
      show h_T g_P (g_Y ns) 60 49 [(0, .ref 63), (1, .ref 72), (2, .int x2)] [.int rq38x] sq38 _
      refine h_istore_n (pc' := 50) (M := [(3, .int rq38x), (0, .ref 63), (1, .ref 72), (2, .int x2)]) rfl rfl rfl rfl ?_
      refine h_aload_n (pc' := 51) rfl rfl rfl ?_
      refine h_getI (pc' := 54) (v := sq38 63 2) rfl rfl rfl rfl rfl rfl (fun z47 hz47 => ?_)
      have tz47 := tf_63_2 Isq38
      refine h_zne (tg := 64) (pc' := 57) rfl rfl rfl hz47 (fun c48 => ?_) (fun c48 => absurd c48 (by omega))
      clear hz47
      exact h_wk [(0, .ref 63)] ⟨rfl, trivial⟩ (kx0 _ _ Isq38 Is45 Fsq38 Fs45 (by omega) (by omega) (by omega) (by omega) (by omega) (fun h => absurd h (by omega)) (Or.inl ⟨by omega, by omega, by omega, by omega⟩) _ _ (h_al_ok ⟨rfl, trivial⟩ hlw46) hRw46)
    · exfalso; omega
  · show h_T g_P (g_Y ns) 60 14 [(0, .ref 63), (1, .ref 72), (2, .int x2)] [] σ1 _
    refine h_aload_n (pc' := 15) rfl rfl rfl ?_
    refine h_call (sp := false) (pc' := 18) (M := [(0, .ref 63)]) rfl rfl rfl rfl rfl rfl rfl rfl ?_
    refine h_aload_n (pc' := 1) rfl rfl rfl ?_
    refine h_getI (pc' := 4) (v := σ1 63 2) rfl rfl rfl rfl rfl rfl (fun z49 hz49 => ?_)
    have tz49 := tf_63_2 hI1
    refine h_zne (tg := 22) (pc' := 7) rfl rfl rfl hz49 (fun c50 => absurd c50 (by omega)) (fun c50 => ?_)
    clear hz49
    refine h_aload_n (pc' := 8) rfl rfl rfl ?_
    refine h_getR (pc' := 11) rfl rfl rfl rfl rfl ?_
    refine h_getI (pc' := 14) (v := σ1 64 3) rfl rfl rfl rfl rfl rfl (fun z51 hz51 => ?_)
    have tz51 := tf_64_3 hI1
    refine h_iconst (pc' := 15) (x := (Int32.ofInt 2)) rfl rfl rfl ?_
    refine h_cne (tg := 22) (pc' := 18) rfl rfl rfl hz51 ci_2 (fun c52 => ?_) (fun c52 => absurd c52 (by omega))
    clear hz51
    refine h_iconst (pc' := 23) (x := (Int32.ofInt 0)) rfl rfl rfl ?_
    refine h_zret rfl rfl ci_0 (by omega) (h_Kv ?_)
    refine h_zeq (tg := 44) (pc' := 21) rfl rfl rfl ci_0 (fun c53 => ?_) (fun c53 => absurd c53 (by omega))
    refine h_aload_n (pc' := 45) rfl rfl rfl ?_
    refine h_iconst (pc' := 46) (x := (Int32.ofInt 5)) rfl rfl rfl ?_
    refine d_toM (g_inj ns) hl2 hR2 (fun lvw54 memw54 hlw54 hRw54 => ?_)
    show h_T g_P (g_Y ns) 151 5 [(0, .ref 98), (1, .int (Int32.ofInt 19)), (2, .int y2), (3, .int y3)] [] σ2 _
    refine h_aload_n (pc' := 6) rfl rfl rfl ?_
    refine h_getI (pc' := 9) (v := σ2 98 13) rfl rfl rfl rfl rfl rfl (fun z55 hz55 => ?_)
    have tz55 := tf_98_13 hI2
    refine h_zne (tg := 33) (pc' := 12) rfl rfl rfl hz55 (fun c56 => absurd c56 (by omega)) (fun c56 => ?_)
    clear hz55
    refine h_aload_n (pc' := 13) rfl rfl rfl ?_
    refine h_getI (pc' := 16) (v := σ2 98 17) rfl rfl rfl rfl rfl rfl (fun z57 hz57 => ?_)
    have tz57 := tf_98_17 hI2
    refine h_iconst (pc' := 17) (x := (Int32.ofInt 2)) rfl rfl rfl ?_
    refine h_cne (tg := 33) (pc' := 20) rfl rfl rfl hz57 ci_2 (fun c58 => ?_) (fun c58 => absurd c58 (by omega))
    clear hz57
    refine h_aload_n (pc' := 34) rfl rfl rfl ?_
    refine h_getR (pc' := 37) rfl rfl rfl rfl rfl ?_
    refine h_iload_n (pc' := 38) rfl rfl rfl ?_
    refine h_iconst (pc' := 39) (x := (Int32.ofInt 2)) rfl rfl rfl ?_
    refine h_iload_n (pc' := 40) rfl rfl rfl ?_
    refine h_imul (pc' := 41) rfl rfl ci_2 hy2 rfl (by omega) (by omega) (fun z59 hz59 => ?_)
    refine h_iadd (pc' := 42) rfl rfl ci_19 hz59 rfl (by omega) (by omega) (fun z60 hz60 => ?_)
    clear hz59
    refine h_iload_n (pc' := 43) rfl rfl rfl ?_
    refine h_iast (pc' := 44) rfl rfl rfl rfl hz60 (by omega) (by omega) hy3 (h_fgt (E := fun s => s 98 15 = σ2 98 15 ∧ s 98 16 = σ2 98 16 ∧ s 98 17 = σ2 98 17 ∧ s 98 18 = σ2 98 18 ∧ s 98 13 = σ2 98 13 ∧ s 98 14 = σ2 98 14 ∧ s 98 5 = σ2 98 5 ∧ s 98 6 = σ2 98 6 ∧ s 98 7 = σ2 98 7 ∧ s 98 8 = σ2 98 8 ∧ s 98 9 = σ2 98 9 ∧ s 101 18 = σ2 101 18 ∧ s 101 25 = σ2 101 25 ∧ s 101 43 = σ2 101 43 ∧ s = h_up σ2 101 (19 + (2 * c2)) c3) _ (ip_101_4 hI2 (by omega) (by omega)) (F2.up rfl) ⟨rfl, rfl, rfl, rfl, rfl, rfl, rfl, rfl, rfl, rfl, rfl, h_up_n2 (by omega) rfl, h_up_n2 (by omega) rfl, h_up_n2 (by omega) rfl, rfl⟩ (fun s61 Is61 Fs61 (es61 : s61 98 15 = σ2 98 15 ∧ s61 98 16 = σ2 98 16 ∧ s61 98 17 = σ2 98 17 ∧ s61 98 18 = σ2 98 18 ∧ s61 98 13 = σ2 98 13 ∧ s61 98 14 = σ2 98 14 ∧ s61 98 5 = σ2 98 5 ∧ s61 98 6 = σ2 98 6 ∧ s61 98 7 = σ2 98 7 ∧ s61 98 8 = σ2 98 8 ∧ s61 98 9 = σ2 98 9 ∧ s61 101 18 = σ2 101 18 ∧ s61 101 25 = σ2 101 25 ∧ s61 101 43 = σ2 101 43 ∧ s61 = h_up σ2 101 (19 + (2 * c2)) c3) => ?_))
    clear hz60
    refine h_aload_n (pc' := 45) rfl rfl rfl ?_
    refine h_getR (pc' := 48) rfl rfl rfl rfl rfl ?_
    refine h_iload_n (pc' := 49) rfl rfl rfl ?_
    refine h_iconst (pc' := 50) (x := (Int32.ofInt 2)) rfl rfl rfl ?_
    refine h_iload_n (pc' := 51) rfl rfl rfl ?_
    refine h_imul (pc' := 52) rfl rfl ci_2 hy2 rfl (by omega) (by omega) (fun z62 hz62 => ?_)
    refine h_iadd (pc' := 53) rfl rfl ci_19 hz62 rfl (by omega) (by omega) (fun z63 hz63 => ?_)
    clear hz62
    refine h_iconst (pc' := 54) (x := (Int32.ofInt 1)) rfl rfl rfl ?_
    refine h_iadd (pc' := 55) rfl rfl hz63 ci_1 rfl (by omega) (by omega) (fun z64 hz64 => ?_)
    clear hz63
    refine h_aload_n (pc' := 56) rfl rfl rfl ?_
    refine d_call (g_inj ns) (pc' := 59) (m := 150) (M := [(0, .ref 98)]) (rest := [.int z64, .ref 101]) ⟨false, _, _, _, _, _, _, rfl, rfl, rfl, rfl, rfl, rfl, rfl⟩ (fun lv65 hlv65 => ?_)
    refine h_aload_n (pc' := 1) rfl rfl rfl ?_
    refine h_iconst (pc' := 2) (x := (Int32.ofInt 0)) rfl rfl rfl ?_
    refine h_iconst (pc' := 3) (x := (Int32.ofInt 5)) rfl rfl rfl ?_
    refine d_pcall (g_inj ns) (m1 := 58) (pc1' := 49) (M1 := [(0, .ref 63), (1, .int (Int32.ofInt 5))]) (rest1 := []) (m2 := 149) (pc2' := 6) (M2 := [(0, .ref 98), (1, .int (Int32.ofInt 0)), (2, .int (Int32.ofInt 5))]) (rest2 := []) ⟨false, _, _, _, _, _, _, rfl, rfl, rfl, rfl, rfl, rfl, rfl⟩ ⟨false, _, _, _, _, _, _, rfl, rfl, rfl, rfl, rfl, rfl, rfl⟩ hRw54 ?_
    refine pp_num hI1 Is61 (hTL.fr (F1.mono rfl) (Fs61.mono rfl)) (Int32.ofInt 5) _ ci_5 (Int32.ofInt 5) _ ci_5 (by omega) (by omega) (by omega) (by omega) (by omega) (by omega) (Or.inr (Or.inr (Or.inl ⟨by omega, by omega, by omega, by omega, by omega⟩))) (fun rq66x bq66x hq66x rq66m bq66m hq66m sq66 tq66 Isq66 Itq66 Gsq66 Gtq66 yq66_0 yq66_1 yq66_2 yq66_3 yq66_4 pcq66 memq66 hRq66 => ?_)
    have Fsq66 := (Gsq66.mono (B := k_pl) rfl).tr F1
    have Ftq66 := (Gtq66.mono (B := k_pm) rfl).tr Fs61
    have esq66_6 : sq66 64 1 = σ1 64 1 := (Gsq66 64 1 rfl).trans rfl
    have esq66_7 : sq66 66 8 = σ1 66 8 := (Gsq66 66 8 rfl).trans rfl
    have esq66_8 : sq66 66 9 = σ1 66 9 := (Gsq66 66 9 rfl).trans rfl
    have esq66_9 : sq66 66 10 = σ1 66 10 := (Gsq66 66 10 rfl).trans rfl
    have esq66_10 : sq66 69 2 = σ1 69 2 := (Gsq66 69 2 rfl).trans rfl
    have esq66_11 : sq66 72 2 = σ1 72 2 := (Gsq66 72 2 rfl).trans rfl
    have esq66_12 : sq66 63 5 = σ1 63 5 := (Gsq66 63 5 rfl).trans rfl
    have etq66_6 : tq66 98 5 = σ2 98 5 := (Gtq66 98 5 rfl).trans es61.2.2.2.2.2.2.1
    have etq66_7 : tq66 98 6 = σ2 98 6 := (Gtq66 98 6 rfl).trans es61.2.2.2.2.2.2.2.1
    have etq66_8 : tq66 98 7 = σ2 98 7 := (Gtq66 98 7 rfl).trans es61.2.2.2.2.2.2.2.2.1
    have etq66_9 : tq66 98 8 = σ2 98 8 := (Gtq66 98 8 rfl).trans es61.2.2.2.2.2.2.2.2.2.1
    have etq66_10 : tq66 98 9 = σ2 98 9 := (Gtq66 98 9 rfl).trans es61.2.2.2.2.2.2.2.2.2.2.1
    have etq66_11 : tq66 101 18 = σ2 101 18 := (Gtq66 101 18 rfl).trans es61.2.2.2.2.2.2.2.2.2.2.2.1
    have etq66_12 : tq66 101 25 = σ2 101 25 := (Gtq66 101 25 rfl).trans es61.2.2.2.2.2.2.2.2.2.2.2.2.1
    have etq66_13 : tq66 101 43 = σ2 101 43 := (Gtq66 101 43 rfl).trans es61.2.2.2.2.2.2.2.2.2.2.2.2.2.1
    rcases pcq66 with pcq66 | pcq66
    · show h_T g_P (g_Y ns) 150 6 [(0, .ref 98)] [.int rq66m] tq66 _
      refine h_istore_n (pc' := 7) (M := [(1, .int rq66m), (0, .ref 98)]) rfl rfl rfl rfl ?_
      have oH67 : tq66 98 8 = σ2 98 8 := etq66_9
      have uH67 := tf_98_8 Itq66
      refine h_wk [(0, .ref 98), (1, .int rq66m)] ⟨rfl, rfl, trivial⟩ (lm_hi _ Itq66 rq66m _ hq66m (by omega) (fun H67 hH67 => (h_fgt (E := fun s => s 98 15 = tq66 98 15 ∧ s 98 16 = tq66 98 16 ∧ s 98 17 = tq66 98 17 ∧ s 98 18 = tq66 98 18 ∧ s 98 13 = tq66 98 13 ∧ s 98 14 = tq66 98 14 ∧ s 98 5 = σ2 98 5 ∧ s 98 6 = σ2 98 6 ∧ s 98 7 = σ2 98 7 ∧ s 98 8 = H67 ∧ s 98 9 = σ2 98 9 ∧ s 101 18 = σ2 101 18 ∧ s 101 25 = σ2 101 25 ∧ s 101 43 = σ2 101 43 ∧ s = h_up tq66 98 8 H67) _ (if_98_8 Itq66 (by omega)) (Ftq66.up rfl) ⟨rfl, rfl, rfl, rfl, rfl, rfl, etq66_6, etq66_7, etq66_8, rfl, etq66_10, etq66_11, etq66_12, etq66_13, rfl⟩ (fun s68 Is68 Fs68 (es68 : s68 98 15 = tq66 98 15 ∧ s68 98 16 = tq66 98 16 ∧ s68 98 17 = tq66 98 17 ∧ s68 98 18 = tq66 98 18 ∧ s68 98 13 = tq66 98 13 ∧ s68 98 14 = tq66 98 14 ∧ s68 98 5 = σ2 98 5 ∧ s68 98 6 = σ2 98 6 ∧ s68 98 7 = σ2 98 7 ∧ s68 98 8 = H67 ∧ s68 98 9 = σ2 98 9 ∧ s68 101 18 = σ2 101 18 ∧ s68 101 25 = σ2 101 25 ∧ s68 101 43 = σ2 101 43 ∧ s68 = h_up tq66 98 8 H67) => ?_))))
      refine h_iload_n (pc' := 28) rfl rfl rfl ?_
      refine h_iret rfl rfl (d_ret hlv65 ?_)
      refine h_iast (pc' := 60) rfl rfl rfl rfl hz64 (by omega) (by omega) hq66m (h_fgt (E := fun s => s 98 15 = tq66 98 15 ∧ s 98 16 = tq66 98 16 ∧ s 98 17 = tq66 98 17 ∧ s 98 18 = tq66 98 18 ∧ s 98 13 = tq66 98 13 ∧ s 98 14 = tq66 98 14 ∧ s 98 5 = σ2 98 5 ∧ s 98 6 = σ2 98 6 ∧ s 98 7 = σ2 98 7 ∧ s 98 8 = H67 ∧ s 98 9 = σ2 98 9 ∧ s 101 18 = σ2 101 18 ∧ s 101 25 = σ2 101 25 ∧ s 101 43 = σ2 101 43 ∧ s = h_up s68 101 ((19 + (2 * c2)) + 1) bq66m) _ (ip_101_4 Is68 (by omega) (by omega)) (Fs68.up rfl) ⟨es68.1, es68.2.1, es68.2.2.1, es68.2.2.2.1, es68.2.2.2.2.1, es68.2.2.2.2.2.1, es68.2.2.2.2.2.2.1, es68.2.2.2.2.2.2.2.1, es68.2.2.2.2.2.2.2.2.1, es68.2.2.2.2.2.2.2.2.2.1, es68.2.2.2.2.2.2.2.2.2.2.1, h_up_n2 (by omega) es68.2.2.2.2.2.2.2.2.2.2.2.1, h_up_n2 (by omega) es68.2.2.2.2.2.2.2.2.2.2.2.2.1, h_up_n2 (by omega) es68.2.2.2.2.2.2.2.2.2.2.2.2.2.1, rfl⟩ (fun s69 Is69 Fs69 (es69 : s69 98 15 = tq66 98 15 ∧ s69 98 16 = tq66 98 16 ∧ s69 98 17 = tq66 98 17 ∧ s69 98 18 = tq66 98 18 ∧ s69 98 13 = tq66 98 13 ∧ s69 98 14 = tq66 98 14 ∧ s69 98 5 = σ2 98 5 ∧ s69 98 6 = σ2 98 6 ∧ s69 98 7 = σ2 98 7 ∧ s69 98 8 = H67 ∧ s69 98 9 = σ2 98 9 ∧ s69 101 18 = σ2 101 18 ∧ s69 101 25 = σ2 101 25 ∧ s69 101 43 = σ2 101 43 ∧ s69 = h_up s68 101 ((19 + (2 * c2)) + 1) bq66m) => ?_))
      clear hq66m hz64
      refine h_aload_n (pc' := 61) rfl rfl rfl ?_
      refine h_getR (pc' := 64) rfl rfl rfl rfl rfl ?_
      refine h_iload_n (pc' := 65) rfl rfl rfl ?_
      refine h_bipush (pc' := 67) (x := (Int32.ofInt 6)) rfl rfl cb_6 ?_
      refine h_iadd (pc' := 68) (c := 25) rfl rfl ci_19 ci_6 rfl (by omega) (by omega) (fun z70 hz70 => ?_)
      refine h_dup2 (pc' := 69) rfl rfl rfl ?_
      refine h_iald (pc' := 70) (v := σ2 101 25) rfl rfl rfl hz70 (by omega) (by omega) es69.2.2.2.2.2.2.2.2.2.2.2.2.1 (fun z71 hz71 => ?_)
      have tz71 := ty_101_5 hI2 25 (by omega)
      refine h_iconst (pc' := 71) (x := (Int32.ofInt 1)) rfl rfl rfl ?_
      refine h_iadd (pc' := 72) rfl rfl hz71 ci_1 rfl (by omega) (by omega) (fun z72 hz72 => ?_)
      clear hz71
      refine h_iast (pc' := 73) rfl rfl rfl rfl hz70 (by omega) (by omega) hz72 (h_fgt (E := fun s => s 98 15 = tq66 98 15 ∧ s 98 16 = tq66 98 16 ∧ s 98 17 = tq66 98 17 ∧ s 98 18 = tq66 98 18 ∧ s 98 13 = tq66 98 13 ∧ s 98 14 = tq66 98 14 ∧ s 98 5 = σ2 98 5 ∧ s 98 6 = σ2 98 6 ∧ s 98 7 = σ2 98 7 ∧ s 98 8 = H67 ∧ s 98 9 = σ2 98 9 ∧ s 101 18 = σ2 101 18 ∧ s 101 25 = ((σ2 101 25) + 1) ∧ s 101 43 = σ2 101 43 ∧ s = h_up s69 101 25 ((σ2 101 25) + 1)) _ (ip_101_5 Is69 (by omega) (by omega)) (Fs69.up rfl) ⟨es69.1, es69.2.1, es69.2.2.1, es69.2.2.2.1, es69.2.2.2.2.1, es69.2.2.2.2.2.1, es69.2.2.2.2.2.2.1, es69.2.2.2.2.2.2.2.1, es69.2.2.2.2.2.2.2.2.1, es69.2.2.2.2.2.2.2.2.2.1, es69.2.2.2.2.2.2.2.2.2.2.1, es69.2.2.2.2.2.2.2.2.2.2.2.1, rfl, es69.2.2.2.2.2.2.2.2.2.2.2.2.2.1, rfl⟩ (fun s73 Is73 Fs73 (es73 : s73 98 15 = tq66 98 15 ∧ s73 98 16 = tq66 98 16 ∧ s73 98 17 = tq66 98 17 ∧ s73 98 18 = tq66 98 18 ∧ s73 98 13 = tq66 98 13 ∧ s73 98 14 = tq66 98 14 ∧ s73 98 5 = σ2 98 5 ∧ s73 98 6 = σ2 98 6 ∧ s73 98 7 = σ2 98 7 ∧ s73 98 8 = H67 ∧ s73 98 9 = σ2 98 9 ∧ s73 101 18 = σ2 101 18 ∧ s73 101 25 = ((σ2 101 25) + 1) ∧ s73 101 43 = σ2 101 43 ∧ s73 = h_up s69 101 25 ((σ2 101 25) + 1)) => ?_))
      clear hz70
      refine d_toL (g_inj ns) hlw54 hRq66 (fun lvw74 memw74 hlw74 hRw74 => ?_)
      show h_T g_P (g_Y ns) 60 49 [(0, .ref 63), (1, .ref 72), (2, .int x2)] [.int rq66x] sq66 _
      refine h_istore_n (pc' := 50) (M := [(3, .int rq66x), (0, .ref 63), (1, .ref 72), (2, .int x2)]) rfl rfl rfl rfl ?_
      refine h_aload_n (pc' := 51) rfl rfl rfl ?_
      refine h_getI (pc' := 54) (v := sq66 63 2) rfl rfl rfl rfl rfl rfl (fun z75 hz75 => ?_)
      have tz75 := tf_63_2 Isq66
      refine h_zne (tg := 64) (pc' := 57) rfl rfl rfl hz75 (fun c76 => ?_) (fun c76 => absurd c76 (by omega))
      clear hz75
      exact h_wk [(0, .ref 63)] ⟨rfl, trivial⟩ (kx0 _ _ Isq66 Is73 Fsq66 Fs73 (by omega) (by omega) (by omega) (by omega) (by omega) (fun h => absurd h (by omega)) (Or.inl ⟨by omega, by omega, by omega, by omega⟩) _ _ (h_al_ok ⟨rfl, trivial⟩ hlw74) hRw74)
    · exfalso; omega
  · show h_T g_P (g_Y ns) 60 14 [(0, .ref 63), (1, .ref 72), (2, .int x2)] [] σ1 _
    refine h_aload_n (pc' := 15) rfl rfl rfl ?_
    refine h_call (sp := false) (pc' := 18) (M := [(0, .ref 63)]) rfl rfl rfl rfl rfl rfl rfl rfl ?_
    refine h_aload_n (pc' := 1) rfl rfl rfl ?_
    refine h_getI (pc' := 4) (v := σ1 63 2) rfl rfl rfl rfl rfl rfl (fun z77 hz77 => ?_)
    have tz77 := tf_63_2 hI1
    refine h_zne (tg := 22) (pc' := 7) rfl rfl rfl hz77 (fun c78 => absurd c78 (by omega)) (fun c78 => ?_)
    clear hz77
    refine h_aload_n (pc' := 8) rfl rfl rfl ?_
    refine h_getR (pc' := 11) rfl rfl rfl rfl rfl ?_
    refine h_getI (pc' := 14) (v := σ1 64 3) rfl rfl rfl rfl rfl rfl (fun z79 hz79 => ?_)
    have tz79 := tf_64_3 hI1
    refine h_iconst (pc' := 15) (x := (Int32.ofInt 2)) rfl rfl rfl ?_
    refine h_cne (tg := 22) (pc' := 18) rfl rfl rfl hz79 ci_2 (fun c80 => absurd c80 (by omega)) (fun c80 => ?_)
    clear hz79
    refine h_iconst (pc' := 19) (x := (Int32.ofInt 1)) rfl rfl rfl ?_
    refine h_goto (pc' := 23) rfl rfl ?_
    refine h_zret rfl rfl ci_1 (by omega) (h_Kv ?_)
    refine h_zeq (tg := 44) (pc' := 21) rfl rfl rfl ci_1 (fun c81 => absurd c81 (by omega)) (fun c81 => ?_)
    refine h_aload_n (pc' := 22) rfl rfl rfl ?_
    refine h_getR (pc' := 25) rfl rfl rfl rfl rfl ?_
    refine h_getI (pc' := 28) (v := σ1 64 5) rfl rfl rfl rfl rfl rfl (fun z82 hz82 => ?_)
    have tz82 := tf_64_5 hI1
    refine h_iload_n (pc' := 29) rfl rfl rfl ?_
    refine h_cne (tg := 44) (pc' := 32) rfl rfl rfl hz82 hx2 (fun c83 => ?_) (fun c83 => ?_)
    · clear hz82
      refine h_aload_n (pc' := 45) rfl rfl rfl ?_
      refine h_iconst (pc' := 46) (x := (Int32.ofInt 5)) rfl rfl rfl ?_
      refine d_toM (g_inj ns) hl2 hR2 (fun lvw84 memw84 hlw84 hRw84 => ?_)
      show h_T g_P (g_Y ns) 151 5 [(0, .ref 98), (1, .int (Int32.ofInt 19)), (2, .int y2), (3, .int y3)] [] σ2 _
      refine h_aload_n (pc' := 6) rfl rfl rfl ?_
      refine h_getI (pc' := 9) (v := σ2 98 13) rfl rfl rfl rfl rfl rfl (fun z85 hz85 => ?_)
      have tz85 := tf_98_13 hI2
      refine h_zne (tg := 33) (pc' := 12) rfl rfl rfl hz85 (fun c86 => absurd c86 (by omega)) (fun c86 => ?_)
      clear hz85
      refine h_aload_n (pc' := 13) rfl rfl rfl ?_
      refine h_getI (pc' := 16) (v := σ2 98 17) rfl rfl rfl rfl rfl rfl (fun z87 hz87 => ?_)
      have tz87 := tf_98_17 hI2
      refine h_iconst (pc' := 17) (x := (Int32.ofInt 2)) rfl rfl rfl ?_
      refine h_cne (tg := 33) (pc' := 20) rfl rfl rfl hz87 ci_2 (fun c88 => absurd c88 (by omega)) (fun c88 => ?_)
      clear hz87
      refine h_aload_n (pc' := 21) rfl rfl rfl ?_
      refine h_getI (pc' := 24) (v := σ2 98 18) rfl rfl rfl rfl rfl rfl (fun z89 hz89 => ?_)
      have tz89 := tf_98_18 hI2
      refine h_iload_n (pc' := 25) rfl rfl rfl ?_
      refine h_cne (tg := 33) (pc' := 28) rfl rfl rfl hz89 hy3 (fun c90 => ?_) (fun c90 => ?_)
      · clear hz89
        refine h_aload_n (pc' := 34) rfl rfl rfl ?_
        refine h_getR (pc' := 37) rfl rfl rfl rfl rfl ?_
        refine h_iload_n (pc' := 38) rfl rfl rfl ?_
        refine h_iconst (pc' := 39) (x := (Int32.ofInt 2)) rfl rfl rfl ?_
        refine h_iload_n (pc' := 40) rfl rfl rfl ?_
        refine h_imul (pc' := 41) rfl rfl ci_2 hy2 rfl (by omega) (by omega) (fun z91 hz91 => ?_)
        refine h_iadd (pc' := 42) rfl rfl ci_19 hz91 rfl (by omega) (by omega) (fun z92 hz92 => ?_)
        clear hz91
        refine h_iload_n (pc' := 43) rfl rfl rfl ?_
        refine h_iast (pc' := 44) rfl rfl rfl rfl hz92 (by omega) (by omega) hy3 (h_fgt (E := fun s => s 98 15 = σ2 98 15 ∧ s 98 16 = σ2 98 16 ∧ s 98 17 = σ2 98 17 ∧ s 98 18 = σ2 98 18 ∧ s 98 13 = σ2 98 13 ∧ s 98 14 = σ2 98 14 ∧ s 98 5 = σ2 98 5 ∧ s 98 6 = σ2 98 6 ∧ s 98 7 = σ2 98 7 ∧ s 98 8 = σ2 98 8 ∧ s 98 9 = σ2 98 9 ∧ s 101 18 = σ2 101 18 ∧ s 101 25 = σ2 101 25 ∧ s 101 43 = σ2 101 43 ∧ s = h_up σ2 101 (19 + (2 * c2)) c3) _ (ip_101_4 hI2 (by omega) (by omega)) (F2.up rfl) ⟨rfl, rfl, rfl, rfl, rfl, rfl, rfl, rfl, rfl, rfl, rfl, h_up_n2 (by omega) rfl, h_up_n2 (by omega) rfl, h_up_n2 (by omega) rfl, rfl⟩ (fun s93 Is93 Fs93 (es93 : s93 98 15 = σ2 98 15 ∧ s93 98 16 = σ2 98 16 ∧ s93 98 17 = σ2 98 17 ∧ s93 98 18 = σ2 98 18 ∧ s93 98 13 = σ2 98 13 ∧ s93 98 14 = σ2 98 14 ∧ s93 98 5 = σ2 98 5 ∧ s93 98 6 = σ2 98 6 ∧ s93 98 7 = σ2 98 7 ∧ s93 98 8 = σ2 98 8 ∧ s93 98 9 = σ2 98 9 ∧ s93 101 18 = σ2 101 18 ∧ s93 101 25 = σ2 101 25 ∧ s93 101 43 = σ2 101 43 ∧ s93 = h_up σ2 101 (19 + (2 * c2)) c3) => ?_))
        clear hz92
        refine h_aload_n (pc' := 45) rfl rfl rfl ?_
        refine h_getR (pc' := 48) rfl rfl rfl rfl rfl ?_
        refine h_iload_n (pc' := 49) rfl rfl rfl ?_
        refine h_iconst (pc' := 50) (x := (Int32.ofInt 2)) rfl rfl rfl ?_
        refine h_iload_n (pc' := 51) rfl rfl rfl ?_
        refine h_imul (pc' := 52) rfl rfl ci_2 hy2 rfl (by omega) (by omega) (fun z94 hz94 => ?_)
        refine h_iadd (pc' := 53) rfl rfl ci_19 hz94 rfl (by omega) (by omega) (fun z95 hz95 => ?_)
        clear hz94
        refine h_iconst (pc' := 54) (x := (Int32.ofInt 1)) rfl rfl rfl ?_
        refine h_iadd (pc' := 55) rfl rfl hz95 ci_1 rfl (by omega) (by omega) (fun z96 hz96 => ?_)
        clear hz95
        refine h_aload_n (pc' := 56) rfl rfl rfl ?_
        refine d_call (g_inj ns) (pc' := 59) (m := 150) (M := [(0, .ref 98)]) (rest := [.int z96, .ref 101]) ⟨false, _, _, _, _, _, _, rfl, rfl, rfl, rfl, rfl, rfl, rfl⟩ (fun lv97 hlv97 => ?_)
        refine h_aload_n (pc' := 1) rfl rfl rfl ?_
        refine h_iconst (pc' := 2) (x := (Int32.ofInt 0)) rfl rfl rfl ?_
        refine h_iconst (pc' := 3) (x := (Int32.ofInt 5)) rfl rfl rfl ?_
        refine d_pcall (g_inj ns) (m1 := 58) (pc1' := 49) (M1 := [(0, .ref 63), (1, .int (Int32.ofInt 5))]) (rest1 := []) (m2 := 149) (pc2' := 6) (M2 := [(0, .ref 98), (1, .int (Int32.ofInt 0)), (2, .int (Int32.ofInt 5))]) (rest2 := []) ⟨false, _, _, _, _, _, _, rfl, rfl, rfl, rfl, rfl, rfl, rfl⟩ ⟨false, _, _, _, _, _, _, rfl, rfl, rfl, rfl, rfl, rfl, rfl⟩ hRw84 ?_
        refine pp_num hI1 Is93 (hTL.fr (F1.mono rfl) (Fs93.mono rfl)) (Int32.ofInt 5) _ ci_5 (Int32.ofInt 5) _ ci_5 (by omega) (by omega) (by omega) (by omega) (by omega) (by omega) (Or.inr (Or.inr (Or.inr (Or.inl ⟨by omega, by omega, by omega, by omega, by omega, by omega, by omega, by omega⟩)))) (fun rq98x bq98x hq98x rq98m bq98m hq98m sq98 tq98 Isq98 Itq98 Gsq98 Gtq98 yq98_0 yq98_1 yq98_2 yq98_3 yq98_4 pcq98 memq98 hRq98 => ?_)
        have Fsq98 := (Gsq98.mono (B := k_pl) rfl).tr F1
        have Ftq98 := (Gtq98.mono (B := k_pm) rfl).tr Fs93
        have esq98_6 : sq98 64 1 = σ1 64 1 := (Gsq98 64 1 rfl).trans rfl
        have esq98_7 : sq98 66 8 = σ1 66 8 := (Gsq98 66 8 rfl).trans rfl
        have esq98_8 : sq98 66 9 = σ1 66 9 := (Gsq98 66 9 rfl).trans rfl
        have esq98_9 : sq98 66 10 = σ1 66 10 := (Gsq98 66 10 rfl).trans rfl
        have esq98_10 : sq98 69 2 = σ1 69 2 := (Gsq98 69 2 rfl).trans rfl
        have esq98_11 : sq98 72 2 = σ1 72 2 := (Gsq98 72 2 rfl).trans rfl
        have esq98_12 : sq98 63 5 = σ1 63 5 := (Gsq98 63 5 rfl).trans rfl
        have etq98_6 : tq98 98 5 = σ2 98 5 := (Gtq98 98 5 rfl).trans es93.2.2.2.2.2.2.1
        have etq98_7 : tq98 98 6 = σ2 98 6 := (Gtq98 98 6 rfl).trans es93.2.2.2.2.2.2.2.1
        have etq98_8 : tq98 98 7 = σ2 98 7 := (Gtq98 98 7 rfl).trans es93.2.2.2.2.2.2.2.2.1
        have etq98_9 : tq98 98 8 = σ2 98 8 := (Gtq98 98 8 rfl).trans es93.2.2.2.2.2.2.2.2.2.1
        have etq98_10 : tq98 98 9 = σ2 98 9 := (Gtq98 98 9 rfl).trans es93.2.2.2.2.2.2.2.2.2.2.1
        have etq98_11 : tq98 101 18 = σ2 101 18 := (Gtq98 101 18 rfl).trans es93.2.2.2.2.2.2.2.2.2.2.2.1
        have etq98_12 : tq98 101 25 = σ2 101 25 := (Gtq98 101 25 rfl).trans es93.2.2.2.2.2.2.2.2.2.2.2.2.1
        have etq98_13 : tq98 101 43 = σ2 101 43 := (Gtq98 101 43 rfl).trans es93.2.2.2.2.2.2.2.2.2.2.2.2.2.1
        rcases pcq98 with pcq98 | pcq98
        · show h_T g_P (g_Y ns) 150 6 [(0, .ref 98)] [.int rq98m] tq98 _
          refine h_istore_n (pc' := 7) (M := [(1, .int rq98m), (0, .ref 98)]) rfl rfl rfl rfl ?_
          have oH99 : tq98 98 8 = σ2 98 8 := etq98_9
          have uH99 := tf_98_8 Itq98
          refine h_wk [(0, .ref 98), (1, .int rq98m)] ⟨rfl, rfl, trivial⟩ (lm_hi _ Itq98 rq98m _ hq98m (by omega) (fun H99 hH99 => (h_fgt (E := fun s => s 98 15 = tq98 98 15 ∧ s 98 16 = tq98 98 16 ∧ s 98 17 = tq98 98 17 ∧ s 98 18 = tq98 98 18 ∧ s 98 13 = tq98 98 13 ∧ s 98 14 = tq98 98 14 ∧ s 98 5 = σ2 98 5 ∧ s 98 6 = σ2 98 6 ∧ s 98 7 = σ2 98 7 ∧ s 98 8 = H99 ∧ s 98 9 = σ2 98 9 ∧ s 101 18 = σ2 101 18 ∧ s 101 25 = σ2 101 25 ∧ s 101 43 = σ2 101 43 ∧ s = h_up tq98 98 8 H99) _ (if_98_8 Itq98 (by omega)) (Ftq98.up rfl) ⟨rfl, rfl, rfl, rfl, rfl, rfl, etq98_6, etq98_7, etq98_8, rfl, etq98_10, etq98_11, etq98_12, etq98_13, rfl⟩ (fun s100 Is100 Fs100 (es100 : s100 98 15 = tq98 98 15 ∧ s100 98 16 = tq98 98 16 ∧ s100 98 17 = tq98 98 17 ∧ s100 98 18 = tq98 98 18 ∧ s100 98 13 = tq98 98 13 ∧ s100 98 14 = tq98 98 14 ∧ s100 98 5 = σ2 98 5 ∧ s100 98 6 = σ2 98 6 ∧ s100 98 7 = σ2 98 7 ∧ s100 98 8 = H99 ∧ s100 98 9 = σ2 98 9 ∧ s100 101 18 = σ2 101 18 ∧ s100 101 25 = σ2 101 25 ∧ s100 101 43 = σ2 101 43 ∧ s100 = h_up tq98 98 8 H99) => ?_))))
          refine h_iload_n (pc' := 28) rfl rfl rfl ?_
          refine h_iret rfl rfl (d_ret hlv97 ?_)
          refine h_iast (pc' := 60) rfl rfl rfl rfl hz96 (by omega) (by omega) hq98m (h_fgt (E := fun s => s 98 15 = tq98 98 15 ∧ s 98 16 = tq98 98 16 ∧ s 98 17 = tq98 98 17 ∧ s 98 18 = tq98 98 18 ∧ s 98 13 = tq98 98 13 ∧ s 98 14 = tq98 98 14 ∧ s 98 5 = σ2 98 5 ∧ s 98 6 = σ2 98 6 ∧ s 98 7 = σ2 98 7 ∧ s 98 8 = H99 ∧ s 98 9 = σ2 98 9 ∧ s 101 18 = σ2 101 18 ∧ s 101 25 = σ2 101 25 ∧ s 101 43 = σ2 101 43 ∧ s = h_up s100 101 ((19 + (2 * c2)) + 1) bq98m) _ (ip_101_4 Is100 (by omega) (by omega)) (Fs100.up rfl) ⟨es100.1, es100.2.1, es100.2.2.1, es100.2.2.2.1, es100.2.2.2.2.1, es100.2.2.2.2.2.1, es100.2.2.2.2.2.2.1, es100.2.2.2.2.2.2.2.1, es100.2.2.2.2.2.2.2.2.1, es100.2.2.2.2.2.2.2.2.2.1, es100.2.2.2.2.2.2.2.2.2.2.1, h_up_n2 (by omega) es100.2.2.2.2.2.2.2.2.2.2.2.1, h_up_n2 (by omega) es100.2.2.2.2.2.2.2.2.2.2.2.2.1, h_up_n2 (by omega) es100.2.2.2.2.2.2.2.2.2.2.2.2.2.1, rfl⟩ (fun s101 Is101 Fs101 (es101 : s101 98 15 = tq98 98 15 ∧ s101 98 16 = tq98 98 16 ∧ s101 98 17 = tq98 98 17 ∧ s101 98 18 = tq98 98 18 ∧ s101 98 13 = tq98 98 13 ∧ s101 98 14 = tq98 98 14 ∧ s101 98 5 = σ2 98 5 ∧ s101 98 6 = σ2 98 6 ∧ s101 98 7 = σ2 98 7 ∧ s101 98 8 = H99 ∧ s101 98 9 = σ2 98 9 ∧ s101 101 18 = σ2 101 18 ∧ s101 101 25 = σ2 101 25 ∧ s101 101 43 = σ2 101 43 ∧ s101 = h_up s100 101 ((19 + (2 * c2)) + 1) bq98m) => ?_))
          clear hq98m hz96
          refine h_aload_n (pc' := 61) rfl rfl rfl ?_
          refine h_getR (pc' := 64) rfl rfl rfl rfl rfl ?_
          refine h_iload_n (pc' := 65) rfl rfl rfl ?_
          refine h_bipush (pc' := 67) (x := (Int32.ofInt 6)) rfl rfl cb_6 ?_
          refine h_iadd (pc' := 68) (c := 25) rfl rfl ci_19 ci_6 rfl (by omega) (by omega) (fun z102 hz102 => ?_)
          refine h_dup2 (pc' := 69) rfl rfl rfl ?_
          refine h_iald (pc' := 70) (v := σ2 101 25) rfl rfl rfl hz102 (by omega) (by omega) es101.2.2.2.2.2.2.2.2.2.2.2.2.1 (fun z103 hz103 => ?_)
          have tz103 := ty_101_5 hI2 25 (by omega)
          refine h_iconst (pc' := 71) (x := (Int32.ofInt 1)) rfl rfl rfl ?_
          refine h_iadd (pc' := 72) rfl rfl hz103 ci_1 rfl (by omega) (by omega) (fun z104 hz104 => ?_)
          clear hz103
          refine h_iast (pc' := 73) rfl rfl rfl rfl hz102 (by omega) (by omega) hz104 (h_fgt (E := fun s => s 98 15 = tq98 98 15 ∧ s 98 16 = tq98 98 16 ∧ s 98 17 = tq98 98 17 ∧ s 98 18 = tq98 98 18 ∧ s 98 13 = tq98 98 13 ∧ s 98 14 = tq98 98 14 ∧ s 98 5 = σ2 98 5 ∧ s 98 6 = σ2 98 6 ∧ s 98 7 = σ2 98 7 ∧ s 98 8 = H99 ∧ s 98 9 = σ2 98 9 ∧ s 101 18 = σ2 101 18 ∧ s 101 25 = ((σ2 101 25) + 1) ∧ s 101 43 = σ2 101 43 ∧ s = h_up s101 101 25 ((σ2 101 25) + 1)) _ (ip_101_5 Is101 (by omega) (by omega)) (Fs101.up rfl) ⟨es101.1, es101.2.1, es101.2.2.1, es101.2.2.2.1, es101.2.2.2.2.1, es101.2.2.2.2.2.1, es101.2.2.2.2.2.2.1, es101.2.2.2.2.2.2.2.1, es101.2.2.2.2.2.2.2.2.1, es101.2.2.2.2.2.2.2.2.2.1, es101.2.2.2.2.2.2.2.2.2.2.1, es101.2.2.2.2.2.2.2.2.2.2.2.1, rfl, es101.2.2.2.2.2.2.2.2.2.2.2.2.2.1, rfl⟩ (fun s105 Is105 Fs105 (es105 : s105 98 15 = tq98 98 15 ∧ s105 98 16 = tq98 98 16 ∧ s105 98 17 = tq98 98 17 ∧ s105 98 18 = tq98 98 18 ∧ s105 98 13 = tq98 98 13 ∧ s105 98 14 = tq98 98 14 ∧ s105 98 5 = σ2 98 5 ∧ s105 98 6 = σ2 98 6 ∧ s105 98 7 = σ2 98 7 ∧ s105 98 8 = H99 ∧ s105 98 9 = σ2 98 9 ∧ s105 101 18 = σ2 101 18 ∧ s105 101 25 = ((σ2 101 25) + 1) ∧ s105 101 43 = σ2 101 43 ∧ s105 = h_up s101 101 25 ((σ2 101 25) + 1)) => ?_))
          clear hz102
          refine d_toL (g_inj ns) hlw84 hRq98 (fun lvw106 memw106 hlw106 hRw106 => ?_)
          show h_T g_P (g_Y ns) 60 49 [(0, .ref 63), (1, .ref 72), (2, .int x2)] [.int rq98x] sq98 _
          refine h_istore_n (pc' := 50) (M := [(3, .int rq98x), (0, .ref 63), (1, .ref 72), (2, .int x2)]) rfl rfl rfl rfl ?_
          refine h_aload_n (pc' := 51) rfl rfl rfl ?_
          refine h_getI (pc' := 54) (v := sq98 63 2) rfl rfl rfl rfl rfl rfl (fun z107 hz107 => ?_)
          have tz107 := tf_63_2 Isq98
          refine h_zne (tg := 64) (pc' := 57) rfl rfl rfl hz107 (fun c108 => ?_) (fun c108 => absurd c108 (by omega))
          clear hz107
          exact h_wk [(0, .ref 63)] ⟨rfl, trivial⟩ (kx0 _ _ Isq98 Is105 Fsq98 Fs105 (by omega) (by omega) (by omega) (by omega) (by omega) (fun h => absurd h (by omega)) (Or.inl ⟨by omega, by omega, by omega, by omega⟩) _ _ (h_al_ok ⟨rfl, trivial⟩ hlw106) hRw106)
        · show h_T g_P (g_Y ns) 150 6 [(0, .ref 98)] [.int rq98m] tq98 _
          refine h_istore_n (pc' := 7) (M := [(1, .int rq98m), (0, .ref 98)]) rfl rfl rfl rfl ?_
          have oH109 : tq98 98 8 = σ2 98 8 := etq98_9
          have uH109 := tf_98_8 Itq98
          refine h_wk [(0, .ref 98), (1, .int rq98m)] ⟨rfl, rfl, trivial⟩ (lm_hi _ Itq98 rq98m _ hq98m (by omega) (fun H109 hH109 => (h_fgt (E := fun s => s 98 15 = tq98 98 15 ∧ s 98 16 = tq98 98 16 ∧ s 98 17 = tq98 98 17 ∧ s 98 18 = tq98 98 18 ∧ s 98 13 = tq98 98 13 ∧ s 98 14 = tq98 98 14 ∧ s 98 5 = σ2 98 5 ∧ s 98 6 = σ2 98 6 ∧ s 98 7 = σ2 98 7 ∧ s 98 8 = H109 ∧ s 98 9 = σ2 98 9 ∧ s 101 18 = σ2 101 18 ∧ s 101 25 = σ2 101 25 ∧ s 101 43 = σ2 101 43 ∧ s = h_up tq98 98 8 H109) _ (if_98_8 Itq98 (by omega)) (Ftq98.up rfl) ⟨rfl, rfl, rfl, rfl, rfl, rfl, etq98_6, etq98_7, etq98_8, rfl, etq98_10, etq98_11, etq98_12, etq98_13, rfl⟩ (fun s110 Is110 Fs110 (es110 : s110 98 15 = tq98 98 15 ∧ s110 98 16 = tq98 98 16 ∧ s110 98 17 = tq98 98 17 ∧ s110 98 18 = tq98 98 18 ∧ s110 98 13 = tq98 98 13 ∧ s110 98 14 = tq98 98 14 ∧ s110 98 5 = σ2 98 5 ∧ s110 98 6 = σ2 98 6 ∧ s110 98 7 = σ2 98 7 ∧ s110 98 8 = H109 ∧ s110 98 9 = σ2 98 9 ∧ s110 101 18 = σ2 101 18 ∧ s110 101 25 = σ2 101 25 ∧ s110 101 43 = σ2 101 43 ∧ s110 = h_up tq98 98 8 H109) => ?_))))
          refine h_iload_n (pc' := 28) rfl rfl rfl ?_
          refine h_iret rfl rfl (d_ret hlv97 ?_)
          refine h_iast (pc' := 60) rfl rfl rfl rfl hz96 (by omega) (by omega) hq98m (h_fgt (E := fun s => s 98 15 = tq98 98 15 ∧ s 98 16 = tq98 98 16 ∧ s 98 17 = tq98 98 17 ∧ s 98 18 = tq98 98 18 ∧ s 98 13 = tq98 98 13 ∧ s 98 14 = tq98 98 14 ∧ s 98 5 = σ2 98 5 ∧ s 98 6 = σ2 98 6 ∧ s 98 7 = σ2 98 7 ∧ s 98 8 = H109 ∧ s 98 9 = σ2 98 9 ∧ s 101 18 = σ2 101 18 ∧ s 101 25 = σ2 101 25 ∧ s 101 43 = σ2 101 43 ∧ s = h_up s110 101 ((19 + (2 * c2)) + 1) bq98m) _ (ip_101_4 Is110 (by omega) (by omega)) (Fs110.up rfl) ⟨es110.1, es110.2.1, es110.2.2.1, es110.2.2.2.1, es110.2.2.2.2.1, es110.2.2.2.2.2.1, es110.2.2.2.2.2.2.1, es110.2.2.2.2.2.2.2.1, es110.2.2.2.2.2.2.2.2.1, es110.2.2.2.2.2.2.2.2.2.1, es110.2.2.2.2.2.2.2.2.2.2.1, h_up_n2 (by omega) es110.2.2.2.2.2.2.2.2.2.2.2.1, h_up_n2 (by omega) es110.2.2.2.2.2.2.2.2.2.2.2.2.1, h_up_n2 (by omega) es110.2.2.2.2.2.2.2.2.2.2.2.2.2.1, rfl⟩ (fun s111 Is111 Fs111 (es111 : s111 98 15 = tq98 98 15 ∧ s111 98 16 = tq98 98 16 ∧ s111 98 17 = tq98 98 17 ∧ s111 98 18 = tq98 98 18 ∧ s111 98 13 = tq98 98 13 ∧ s111 98 14 = tq98 98 14 ∧ s111 98 5 = σ2 98 5 ∧ s111 98 6 = σ2 98 6 ∧ s111 98 7 = σ2 98 7 ∧ s111 98 8 = H109 ∧ s111 98 9 = σ2 98 9 ∧ s111 101 18 = σ2 101 18 ∧ s111 101 25 = σ2 101 25 ∧ s111 101 43 = σ2 101 43 ∧ s111 = h_up s110 101 ((19 + (2 * c2)) + 1) bq98m) => ?_))
          clear hq98m hz96
          refine h_aload_n (pc' := 61) rfl rfl rfl ?_
          refine h_getR (pc' := 64) rfl rfl rfl rfl rfl ?_
          refine h_iload_n (pc' := 65) rfl rfl rfl ?_
          refine h_bipush (pc' := 67) (x := (Int32.ofInt 6)) rfl rfl cb_6 ?_
          refine h_iadd (pc' := 68) (c := 25) rfl rfl ci_19 ci_6 rfl (by omega) (by omega) (fun z112 hz112 => ?_)
          refine h_dup2 (pc' := 69) rfl rfl rfl ?_
          refine h_iald (pc' := 70) (v := σ2 101 25) rfl rfl rfl hz112 (by omega) (by omega) es111.2.2.2.2.2.2.2.2.2.2.2.2.1 (fun z113 hz113 => ?_)
          have tz113 := ty_101_5 hI2 25 (by omega)
          refine h_iconst (pc' := 71) (x := (Int32.ofInt 1)) rfl rfl rfl ?_
          refine h_iadd (pc' := 72) rfl rfl hz113 ci_1 rfl (by omega) (by omega) (fun z114 hz114 => ?_)
          clear hz113
          refine h_iast (pc' := 73) rfl rfl rfl rfl hz112 (by omega) (by omega) hz114 (h_fgt (E := fun s => s 98 15 = tq98 98 15 ∧ s 98 16 = tq98 98 16 ∧ s 98 17 = tq98 98 17 ∧ s 98 18 = tq98 98 18 ∧ s 98 13 = tq98 98 13 ∧ s 98 14 = tq98 98 14 ∧ s 98 5 = σ2 98 5 ∧ s 98 6 = σ2 98 6 ∧ s 98 7 = σ2 98 7 ∧ s 98 8 = H109 ∧ s 98 9 = σ2 98 9 ∧ s 101 18 = σ2 101 18 ∧ s 101 25 = ((σ2 101 25) + 1) ∧ s 101 43 = σ2 101 43 ∧ s = h_up s111 101 25 ((σ2 101 25) + 1)) _ (ip_101_5 Is111 (by omega) (by omega)) (Fs111.up rfl) ⟨es111.1, es111.2.1, es111.2.2.1, es111.2.2.2.1, es111.2.2.2.2.1, es111.2.2.2.2.2.1, es111.2.2.2.2.2.2.1, es111.2.2.2.2.2.2.2.1, es111.2.2.2.2.2.2.2.2.1, es111.2.2.2.2.2.2.2.2.2.1, es111.2.2.2.2.2.2.2.2.2.2.1, es111.2.2.2.2.2.2.2.2.2.2.2.1, rfl, es111.2.2.2.2.2.2.2.2.2.2.2.2.2.1, rfl⟩ (fun s115 Is115 Fs115 (es115 : s115 98 15 = tq98 98 15 ∧ s115 98 16 = tq98 98 16 ∧ s115 98 17 = tq98 98 17 ∧ s115 98 18 = tq98 98 18 ∧ s115 98 13 = tq98 98 13 ∧ s115 98 14 = tq98 98 14 ∧ s115 98 5 = σ2 98 5 ∧ s115 98 6 = σ2 98 6 ∧ s115 98 7 = σ2 98 7 ∧ s115 98 8 = H109 ∧ s115 98 9 = σ2 98 9 ∧ s115 101 18 = σ2 101 18 ∧ s115 101 25 = ((σ2 101 25) + 1) ∧ s115 101 43 = σ2 101 43 ∧ s115 = h_up s111 101 25 ((σ2 101 25) + 1)) => ?_))
          clear hz112
          refine d_toL (g_inj ns) hlw84 hRq98 (fun lvw116 memw116 hlw116 hRw116 => ?_)
          show h_T g_P (g_Y ns) 60 49 [(0, .ref 63), (1, .ref 72), (2, .int x2)] [.int rq98x] sq98 _
          refine h_istore_n (pc' := 50) (M := [(3, .int rq98x), (0, .ref 63), (1, .ref 72), (2, .int x2)]) rfl rfl rfl rfl ?_
          refine h_aload_n (pc' := 51) rfl rfl rfl ?_
          refine h_getI (pc' := 54) (v := sq98 63 2) rfl rfl rfl rfl rfl rfl (fun z117 hz117 => ?_)
          have tz117 := tf_63_2 Isq98
          refine h_zne (tg := 64) (pc' := 57) rfl rfl rfl hz117 (fun c118 => absurd c118 (by omega)) (fun c118 => ?_)
          clear hz117
          refine h_aload_n (pc' := 58) rfl rfl rfl ?_
          refine h_iload_n (pc' := 59) rfl rfl rfl ?_
          refine h_iload_n (pc' := 60) rfl rfl rfl ?_
          refine h_call (sp := false) (pc' := 63) (M := [(0, .ref 72), (1, .int x2), (2, .int rq98x)]) rfl rfl rfl rfl rfl rfl rfl rfl ?_
          refine h_aload_n (pc' := 1) rfl rfl rfl ?_
          refine h_call (sp := false) (pc' := 4) (M := [(0, .ref 72)]) rfl rfl rfl rfl rfl rfl rfl rfl ?_
          refine h_aload_n (pc' := 1) rfl rfl rfl ?_
          refine h_getI (pc' := 4) (v := σ1 72 2) rfl rfl rfl rfl rfl esq98_11 (fun z119 hz119 => ?_)
          have tz119 := tf_72_2 hI1
          refine h_iconst (pc' := 5) (x := (Int32.ofInt 3)) rfl rfl rfl ?_
          refine h_clt (tg := 12) (pc' := 8) rfl rfl rfl hz119 ci_3 (fun c120 => ?_) (fun c120 => absurd c120 (by omega))
          clear hz119
          refine h_iconst (pc' := 13) (x := (Int32.ofInt 0)) rfl rfl rfl ?_
          refine h_zret rfl rfl ci_0 (by omega) (h_Kv ?_)
          refine h_zeq (tg := 9) (pc' := 7) rfl rfl rfl ci_0 (fun c121 => ?_) (fun c121 => absurd c121 (by omega))
          refine h_aload_n (pc' := 10) rfl rfl rfl ?_
          refine h_getR (pc' := 13) rfl rfl rfl rfl rfl ?_
          refine h_aload_n (pc' := 14) rfl rfl rfl ?_
          refine h_getI (pc' := 17) (v := σ1 72 2) rfl rfl rfl rfl rfl esq98_11 (fun z122 hz122 => ?_)
          refine h_iload_n (pc' := 18) rfl rfl rfl ?_
          refine h_iast (pc' := 19) rfl rfl rfl rfl hz122 (by omega) (by omega) hx2 (h_fgt (E := fun s => s 64 2 = sq98 64 2 ∧ s 64 4 = sq98 64 4 ∧ s 64 3 = sq98 64 3 ∧ s 64 5 = sq98 64 5 ∧ s 63 2 = sq98 63 2 ∧ s 63 3 = sq98 63 3 ∧ s 64 1 = σ1 64 1 ∧ s 66 8 = σ1 66 8 ∧ s 66 9 = σ1 66 9 ∧ s 66 10 = σ1 66 10 ∧ s 69 2 = σ1 69 2 ∧ s 72 2 = σ1 72 2 ∧ s 63 5 = σ1 63 5 ∧ s = h_up sq98 73 (σ1 72 2) a2) _ (in_73 Isq98 (by omega)) (Fsq98.up rfl) ⟨rfl, rfl, rfl, rfl, rfl, rfl, esq98_6, esq98_7, esq98_8, esq98_9, esq98_10, esq98_11, esq98_12, rfl⟩ (fun s123 Is123 Fs123 (es123 : s123 64 2 = sq98 64 2 ∧ s123 64 4 = sq98 64 4 ∧ s123 64 3 = sq98 64 3 ∧ s123 64 5 = sq98 64 5 ∧ s123 63 2 = sq98 63 2 ∧ s123 63 3 = sq98 63 3 ∧ s123 64 1 = σ1 64 1 ∧ s123 66 8 = σ1 66 8 ∧ s123 66 9 = σ1 66 9 ∧ s123 66 10 = σ1 66 10 ∧ s123 69 2 = σ1 69 2 ∧ s123 72 2 = σ1 72 2 ∧ s123 63 5 = σ1 63 5 ∧ s123 = h_up sq98 73 (σ1 72 2) a2) => ?_))
          clear hz122
          refine h_aload_n (pc' := 20) rfl rfl rfl ?_
          refine h_getR (pc' := 23) rfl rfl rfl rfl rfl ?_
          refine h_aload_n (pc' := 24) rfl rfl rfl ?_
          refine h_getI (pc' := 27) (v := σ1 72 2) rfl rfl rfl rfl rfl es123.2.2.2.2.2.2.2.2.2.2.2.1 (fun z124 hz124 => ?_)
          refine h_iload_n (pc' := 28) rfl rfl rfl ?_
          refine h_iast (pc' := 29) rfl rfl rfl rfl hz124 (by omega) (by omega) hq98x (h_fgt (E := fun s => s 64 2 = sq98 64 2 ∧ s 64 4 = sq98 64 4 ∧ s 64 3 = sq98 64 3 ∧ s 64 5 = sq98 64 5 ∧ s 63 2 = sq98 63 2 ∧ s 63 3 = sq98 63 3 ∧ s 64 1 = σ1 64 1 ∧ s 66 8 = σ1 66 8 ∧ s 66 9 = σ1 66 9 ∧ s 66 10 = σ1 66 10 ∧ s 69 2 = σ1 69 2 ∧ s 72 2 = σ1 72 2 ∧ s 63 5 = σ1 63 5 ∧ s = h_up s123 74 (σ1 72 2) bq98x) _ (in_74 Is123 (by omega)) (Fs123.up rfl) ⟨es123.1, es123.2.1, es123.2.2.1, es123.2.2.2.1, es123.2.2.2.2.1, es123.2.2.2.2.2.1, es123.2.2.2.2.2.2.1, es123.2.2.2.2.2.2.2.1, es123.2.2.2.2.2.2.2.2.1, es123.2.2.2.2.2.2.2.2.2.1, es123.2.2.2.2.2.2.2.2.2.2.1, es123.2.2.2.2.2.2.2.2.2.2.2.1, es123.2.2.2.2.2.2.2.2.2.2.2.2.1, rfl⟩ (fun s125 Is125 Fs125 (es125 : s125 64 2 = sq98 64 2 ∧ s125 64 4 = sq98 64 4 ∧ s125 64 3 = sq98 64 3 ∧ s125 64 5 = sq98 64 5 ∧ s125 63 2 = sq98 63 2 ∧ s125 63 3 = sq98 63 3 ∧ s125 64 1 = σ1 64 1 ∧ s125 66 8 = σ1 66 8 ∧ s125 66 9 = σ1 66 9 ∧ s125 66 10 = σ1 66 10 ∧ s125 69 2 = σ1 69 2 ∧ s125 72 2 = σ1 72 2 ∧ s125 63 5 = σ1 63 5 ∧ s125 = h_up s123 74 (σ1 72 2) bq98x) => ?_))
          clear hz124
          refine h_aload_n (pc' := 30) rfl rfl rfl ?_
          refine h_dup (pc' := 31) rfl rfl rfl ?_
          refine h_getI (pc' := 34) (v := σ1 72 2) rfl rfl rfl rfl rfl es125.2.2.2.2.2.2.2.2.2.2.2.1 (fun z126 hz126 => ?_)
          refine h_iconst (pc' := 35) (x := (Int32.ofInt 1)) rfl rfl rfl ?_
          refine h_iadd (pc' := 36) rfl rfl hz126 ci_1 rfl (by omega) (by omega) (fun z127 hz127 => ?_)
          clear hz126
          refine h_put (pc' := 39) rfl rfl rfl rfl rfl rfl hz127 rfl (h_fgt (E := fun s => s 64 2 = sq98 64 2 ∧ s 64 4 = sq98 64 4 ∧ s 64 3 = sq98 64 3 ∧ s 64 5 = sq98 64 5 ∧ s 63 2 = sq98 63 2 ∧ s 63 3 = sq98 63 3 ∧ s 64 1 = σ1 64 1 ∧ s 66 8 = σ1 66 8 ∧ s 66 9 = σ1 66 9 ∧ s 66 10 = σ1 66 10 ∧ s 69 2 = σ1 69 2 ∧ s 72 2 = ((σ1 72 2) + 1) ∧ s 63 5 = σ1 63 5 ∧ s = h_up s125 72 2 ((σ1 72 2) + 1)) _ (if_72_2 Is125 (by omega)) (Fs125.up rfl) ⟨es125.1, es125.2.1, es125.2.2.1, es125.2.2.2.1, es125.2.2.2.2.1, es125.2.2.2.2.2.1, es125.2.2.2.2.2.2.1, es125.2.2.2.2.2.2.2.1, es125.2.2.2.2.2.2.2.2.1, es125.2.2.2.2.2.2.2.2.2.1, es125.2.2.2.2.2.2.2.2.2.2.1, rfl, es125.2.2.2.2.2.2.2.2.2.2.2.2.1, rfl⟩ (fun s128 Is128 Fs128 (es128 : s128 64 2 = sq98 64 2 ∧ s128 64 4 = sq98 64 4 ∧ s128 64 3 = sq98 64 3 ∧ s128 64 5 = sq98 64 5 ∧ s128 63 2 = sq98 63 2 ∧ s128 63 3 = sq98 63 3 ∧ s128 64 1 = σ1 64 1 ∧ s128 66 8 = σ1 66 8 ∧ s128 66 9 = σ1 66 9 ∧ s128 66 10 = σ1 66 10 ∧ s128 69 2 = σ1 69 2 ∧ s128 72 2 = ((σ1 72 2) + 1) ∧ s128 63 5 = σ1 63 5 ∧ s128 = h_up s125 72 2 ((σ1 72 2) + 1)) => ?_))
          refine h_iconst (pc' := 40) (x := (Int32.ofInt 1)) rfl rfl rfl ?_
          refine h_zret rfl rfl ci_1 (by omega) (h_Kv ?_)
          refine h_pop (pc' := 64) rfl rfl rfl ?_
          exact h_wk [(0, .ref 63)] ⟨rfl, trivial⟩ (kx0 _ _ Is128 Is115 Fs128 Fs115 (by omega) (by omega) (by omega) (by omega) (by omega) (fun _ => d_mk (es128.2.2.2.2.2.2.2.1) (es128.2.2.2.2.2.2.2.2.1) (es128.2.2.2.2.2.2.2.2.2.1) (es128.2.2.2.2.2.2.2.2.2.2.1) (es128.2.2.2.2.2.2.2.2.2.2.2.1) (es128.2.2.2.2.2.2.2.2.2.2.2.2.1) (fun j => (h_upo es128.2.2.2.2.2.2.2.2.2.2.2.2.2 rfl j).trans ((h_upo es125.2.2.2.2.2.2.2.2.2.2.2.2.2 rfl j).trans ((h_upo es123.2.2.2.2.2.2.2.2.2.2.2.2.2 rfl j).trans ((Gsq98 67 j rfl))))) (fun j => (h_upo es128.2.2.2.2.2.2.2.2.2.2.2.2.2 rfl j).trans ((h_upo es125.2.2.2.2.2.2.2.2.2.2.2.2.2 rfl j).trans ((h_upo es123.2.2.2.2.2.2.2.2.2.2.2.2.2 rfl j).trans ((Gsq98 68 j rfl))))) (fun j => (h_upo es128.2.2.2.2.2.2.2.2.2.2.2.2.2 rfl j).trans ((h_upo es125.2.2.2.2.2.2.2.2.2.2.2.2.2 rfl j).trans ((h_upo es123.2.2.2.2.2.2.2.2.2.2.2.2.2 rfl j).trans ((Gsq98 70 j rfl))))) (fun j => (h_upo es128.2.2.2.2.2.2.2.2.2.2.2.2.2 rfl j).trans ((h_upo es125.2.2.2.2.2.2.2.2.2.2.2.2.2 rfl j).trans ((h_upo es123.2.2.2.2.2.2.2.2.2.2.2.2.2 rfl j).trans ((Gsq98 71 j rfl))))) (fun j => (h_upo es128.2.2.2.2.2.2.2.2.2.2.2.2.2 rfl j).trans ((h_upo es125.2.2.2.2.2.2.2.2.2.2.2.2.2 rfl j).trans ((h_upi es123.2.2.2.2.2.2.2.2.2.2.2.2.2 j).trans (congrArg (fun z => if j = (σ1 72 2) then a2 else z) ((Gsq98 73 j rfl)))))) (fun j => (h_upo es128.2.2.2.2.2.2.2.2.2.2.2.2.2 rfl j).trans ((h_upi es125.2.2.2.2.2.2.2.2.2.2.2.2.2 j).trans (congrArg (fun z => if j = (σ1 72 2) then bq98x else z) ((h_upo es123.2.2.2.2.2.2.2.2.2.2.2.2.2 rfl j).trans ((Gsq98 74 j rfl)))))) (fun j => (h_upo es128.2.2.2.2.2.2.2.2.2.2.2.2.2 rfl j).trans ((h_upo es125.2.2.2.2.2.2.2.2.2.2.2.2.2 rfl j).trans ((h_upo es123.2.2.2.2.2.2.2.2.2.2.2.2.2 rfl j).trans ((Gsq98 75 j rfl))))) (fun j => (h_upo es128.2.2.2.2.2.2.2.2.2.2.2.2.2 rfl j).trans ((h_upo es125.2.2.2.2.2.2.2.2.2.2.2.2.2 rfl j).trans ((h_upo es123.2.2.2.2.2.2.2.2.2.2.2.2.2 rfl j).trans ((Gsq98 76 j rfl))))) (fun j => (h_upo es128.2.2.2.2.2.2.2.2.2.2.2.2.2 rfl j).trans ((h_upo es125.2.2.2.2.2.2.2.2.2.2.2.2.2 rfl j).trans ((h_upo es123.2.2.2.2.2.2.2.2.2.2.2.2.2 rfl j).trans ((Gsq98 77 j rfl))))) (fun j => (h_upo es128.2.2.2.2.2.2.2.2.2.2.2.2.2 rfl j).trans ((h_upo es125.2.2.2.2.2.2.2.2.2.2.2.2.2 rfl j).trans ((h_upo es123.2.2.2.2.2.2.2.2.2.2.2.2.2 rfl j).trans ((Gsq98 78 j rfl))))) (es115.2.2.2.2.2.2.1) (es115.2.2.2.2.2.2.2.1) (es115.2.2.2.2.2.2.2.2.1) (es115.2.2.2.2.2.2.2.2.2.1) (es115.2.2.2.2.2.2.2.2.2.2.1) (fun j => (h_upi es115.2.2.2.2.2.2.2.2.2.2.2.2.2.2 j).trans (congrArg (fun z => if j = 25 then ((σ2 101 25) + 1) else z) ((h_upi es111.2.2.2.2.2.2.2.2.2.2.2.2.2.2 j).trans (congrArg (fun z => if j = ((19 + (2 * c2)) + 1) then bq98m else z) ((h_upo es110.2.2.2.2.2.2.2.2.2.2.2.2.2.2 rfl j).trans ((Gtq98 101 j rfl).trans ((h_upi es93.2.2.2.2.2.2.2.2.2.2.2.2.2.2 j)))))))) (r_feu pr10 (by omega) (by omega) (by omega) (by omega) (by omega) (by omega) (by omega) (by omega) (by omega) (by omega) (by omega) (by omega) (by omega) (by omega) (by omega) (by omega) (by omega))) (pcq98.elim (fun pcq98 => (Or.inr (Or.inl ⟨by omega, by omega, by omega, by omega, by omega⟩))) (fun pcq98 => (pcq98.elim (fun pcq98 => (Or.inr (Or.inr (Or.inl ⟨by omega, by omega, by omega, by omega, by omega⟩)))) (fun pcq98 => (pcq98.elim (fun pcq98 => (Or.inr (Or.inr (Or.inr (Or.inl ⟨by omega, by omega, by omega, by omega, by omega, by omega, by omega, by omega⟩))))) (fun pcq98 => (Or.inr (Or.inr (Or.inr (Or.inr ⟨by omega, by omega, by omega, by omega, by omega, by omega⟩)))))))))) _ _ (h_al_ok ⟨rfl, trivial⟩ hlw116) hRw116)
      · clear hz89
        refine h_aload_n (pc' := 29) rfl rfl rfl ?_
        refine h_iconst (pc' := 30) (x := (Int32.ofInt 3)) rfl rfl rfl ?_
        refine h_call (sp := false) (pc' := 33) (M := [(0, .ref 98), (1, .int (Int32.ofInt 3))]) rfl rfl rfl rfl rfl rfl rfl rfl ?_
        refine h_aload_n (pc' := 1) rfl rfl rfl ?_
        refine h_getI (pc' := 4) (v := σ2 98 13) rfl rfl rfl rfl rfl rfl (fun z129 hz129 => ?_)
        refine h_zne (tg := 20) (pc' := 7) rfl rfl rfl hz129 (fun c130 => absurd c130 (by omega)) (fun c130 => ?_)
        clear hz129
        refine h_aload_n (pc' := 8) rfl rfl rfl ?_
        refine h_iload_n (pc' := 9) rfl rfl rfl ?_
        refine h_put (pc' := 12) rfl rfl rfl rfl rfl rfl ci_3 rfl (h_fgt (E := fun s => s 98 15 = σ2 98 15 ∧ s 98 16 = σ2 98 16 ∧ s 98 17 = σ2 98 17 ∧ s 98 18 = σ2 98 18 ∧ s 98 13 = 3 ∧ s 98 14 = σ2 98 14 ∧ s 98 5 = σ2 98 5 ∧ s 98 6 = σ2 98 6 ∧ s 98 7 = σ2 98 7 ∧ s 98 8 = σ2 98 8 ∧ s 98 9 = σ2 98 9 ∧ s 101 18 = σ2 101 18 ∧ s 101 25 = σ2 101 25 ∧ s 101 43 = σ2 101 43 ∧ s = h_up σ2 98 13 3) _ (if_98_13 hI2 (by omega)) (F2.up rfl) ⟨rfl, rfl, rfl, rfl, rfl, rfl, rfl, rfl, rfl, rfl, rfl, rfl, rfl, rfl, rfl⟩ (fun s131 Is131 Fs131 (es131 : s131 98 15 = σ2 98 15 ∧ s131 98 16 = σ2 98 16 ∧ s131 98 17 = σ2 98 17 ∧ s131 98 18 = σ2 98 18 ∧ s131 98 13 = 3 ∧ s131 98 14 = σ2 98 14 ∧ s131 98 5 = σ2 98 5 ∧ s131 98 6 = σ2 98 6 ∧ s131 98 7 = σ2 98 7 ∧ s131 98 8 = σ2 98 8 ∧ s131 98 9 = σ2 98 9 ∧ s131 101 18 = σ2 101 18 ∧ s131 101 25 = σ2 101 25 ∧ s131 101 43 = σ2 101 43 ∧ s131 = h_up σ2 98 13 3) => ?_))
        refine h_aload_n (pc' := 13) rfl rfl rfl ?_
        refine h_aload_n (pc' := 14) rfl rfl rfl ?_
        refine h_getI (pc' := 17) (v := σ2 98 16) rfl rfl rfl rfl rfl es131.2.1 (fun z132 hz132 => ?_)
        have tz132 := tf_98_16 hI2
        refine h_put (pc' := 20) rfl rfl rfl rfl rfl rfl hz132 rfl (h_fgt (E := fun s => s 98 15 = σ2 98 15 ∧ s 98 16 = σ2 98 16 ∧ s 98 17 = σ2 98 17 ∧ s 98 18 = σ2 98 18 ∧ s 98 13 = 3 ∧ s 98 14 = (σ2 98 16) ∧ s 98 5 = σ2 98 5 ∧ s 98 6 = σ2 98 6 ∧ s 98 7 = σ2 98 7 ∧ s 98 8 = σ2 98 8 ∧ s 98 9 = σ2 98 9 ∧ s 101 18 = σ2 101 18 ∧ s 101 25 = σ2 101 25 ∧ s 101 43 = σ2 101 43 ∧ s = h_up s131 98 14 (σ2 98 16)) _ (if_98_14 Is131 (h_rgv hz132)) (Fs131.up rfl) ⟨es131.1, es131.2.1, es131.2.2.1, es131.2.2.2.1, es131.2.2.2.2.1, rfl, es131.2.2.2.2.2.2.1, es131.2.2.2.2.2.2.2.1, es131.2.2.2.2.2.2.2.2.1, es131.2.2.2.2.2.2.2.2.2.1, es131.2.2.2.2.2.2.2.2.2.2.1, es131.2.2.2.2.2.2.2.2.2.2.2.1, es131.2.2.2.2.2.2.2.2.2.2.2.2.1, es131.2.2.2.2.2.2.2.2.2.2.2.2.2.1, rfl⟩ (fun s133 Is133 Fs133 (es133 : s133 98 15 = σ2 98 15 ∧ s133 98 16 = σ2 98 16 ∧ s133 98 17 = σ2 98 17 ∧ s133 98 18 = σ2 98 18 ∧ s133 98 13 = 3 ∧ s133 98 14 = (σ2 98 16) ∧ s133 98 5 = σ2 98 5 ∧ s133 98 6 = σ2 98 6 ∧ s133 98 7 = σ2 98 7 ∧ s133 98 8 = σ2 98 8 ∧ s133 98 9 = σ2 98 9 ∧ s133 101 18 = σ2 101 18 ∧ s133 101 25 = σ2 101 25 ∧ s133 101 43 = σ2 101 43 ∧ s133 = h_up s131 98 14 (σ2 98 16)) => ?_))
        refine h_vret rfl rfl (h_Kn ?_)
        refine h_aload_n (pc' := 34) rfl rfl rfl ?_
        refine h_getR (pc' := 37) rfl rfl rfl rfl rfl ?_
        refine h_iload_n (pc' := 38) rfl rfl rfl ?_
        refine h_iconst (pc' := 39) (x := (Int32.ofInt 2)) rfl rfl rfl ?_
        refine h_iload_n (pc' := 40) rfl rfl rfl ?_
        refine h_imul (pc' := 41) rfl rfl ci_2 hy2 rfl (by omega) (by omega) (fun z134 hz134 => ?_)
        refine h_iadd (pc' := 42) rfl rfl ci_19 hz134 rfl (by omega) (by omega) (fun z135 hz135 => ?_)
        clear hz134
        refine h_iload_n (pc' := 43) rfl rfl rfl ?_
        refine h_iast (pc' := 44) rfl rfl rfl rfl hz135 (by omega) (by omega) hy3 (h_fgt (E := fun s => s 98 15 = σ2 98 15 ∧ s 98 16 = σ2 98 16 ∧ s 98 17 = σ2 98 17 ∧ s 98 18 = σ2 98 18 ∧ s 98 13 = 3 ∧ s 98 14 = (σ2 98 16) ∧ s 98 5 = σ2 98 5 ∧ s 98 6 = σ2 98 6 ∧ s 98 7 = σ2 98 7 ∧ s 98 8 = σ2 98 8 ∧ s 98 9 = σ2 98 9 ∧ s 101 18 = σ2 101 18 ∧ s 101 25 = σ2 101 25 ∧ s 101 43 = σ2 101 43 ∧ s = h_up s133 101 (19 + (2 * c2)) c3) _ (ip_101_4 Is133 (by omega) (by omega)) (Fs133.up rfl) ⟨es133.1, es133.2.1, es133.2.2.1, es133.2.2.2.1, es133.2.2.2.2.1, es133.2.2.2.2.2.1, es133.2.2.2.2.2.2.1, es133.2.2.2.2.2.2.2.1, es133.2.2.2.2.2.2.2.2.1, es133.2.2.2.2.2.2.2.2.2.1, es133.2.2.2.2.2.2.2.2.2.2.1, h_up_n2 (by omega) es133.2.2.2.2.2.2.2.2.2.2.2.1, h_up_n2 (by omega) es133.2.2.2.2.2.2.2.2.2.2.2.2.1, h_up_n2 (by omega) es133.2.2.2.2.2.2.2.2.2.2.2.2.2.1, rfl⟩ (fun s136 Is136 Fs136 (es136 : s136 98 15 = σ2 98 15 ∧ s136 98 16 = σ2 98 16 ∧ s136 98 17 = σ2 98 17 ∧ s136 98 18 = σ2 98 18 ∧ s136 98 13 = 3 ∧ s136 98 14 = (σ2 98 16) ∧ s136 98 5 = σ2 98 5 ∧ s136 98 6 = σ2 98 6 ∧ s136 98 7 = σ2 98 7 ∧ s136 98 8 = σ2 98 8 ∧ s136 98 9 = σ2 98 9 ∧ s136 101 18 = σ2 101 18 ∧ s136 101 25 = σ2 101 25 ∧ s136 101 43 = σ2 101 43 ∧ s136 = h_up s133 101 (19 + (2 * c2)) c3) => ?_))
        clear hz135
        refine h_aload_n (pc' := 45) rfl rfl rfl ?_
        refine h_getR (pc' := 48) rfl rfl rfl rfl rfl ?_
        refine h_iload_n (pc' := 49) rfl rfl rfl ?_
        refine h_iconst (pc' := 50) (x := (Int32.ofInt 2)) rfl rfl rfl ?_
        refine h_iload_n (pc' := 51) rfl rfl rfl ?_
        refine h_imul (pc' := 52) rfl rfl ci_2 hy2 rfl (by omega) (by omega) (fun z137 hz137 => ?_)
        refine h_iadd (pc' := 53) rfl rfl ci_19 hz137 rfl (by omega) (by omega) (fun z138 hz138 => ?_)
        clear hz137
        refine h_iconst (pc' := 54) (x := (Int32.ofInt 1)) rfl rfl rfl ?_
        refine h_iadd (pc' := 55) rfl rfl hz138 ci_1 rfl (by omega) (by omega) (fun z139 hz139 => ?_)
        clear hz138
        refine h_aload_n (pc' := 56) rfl rfl rfl ?_
        refine d_call (g_inj ns) (pc' := 59) (m := 150) (M := [(0, .ref 98)]) (rest := [.int z139, .ref 101]) ⟨false, _, _, _, _, _, _, rfl, rfl, rfl, rfl, rfl, rfl, rfl⟩ (fun lv140 hlv140 => ?_)
        refine h_aload_n (pc' := 1) rfl rfl rfl ?_
        refine h_iconst (pc' := 2) (x := (Int32.ofInt 0)) rfl rfl rfl ?_
        refine h_iconst (pc' := 3) (x := (Int32.ofInt 5)) rfl rfl rfl ?_
        refine h_call (sp := false) (pc' := 6) (M := [(0, .ref 98), (1, .int (Int32.ofInt 0)), (2, .int (Int32.ofInt 5))]) rfl rfl rfl rfl rfl rfl rfl rfl ?_
        refine h_aload_n (pc' := 1) rfl rfl rfl ?_
        refine h_getI (pc' := 4) (v := 3) rfl rfl rfl rfl rfl es136.2.2.2.2.1 (fun z141 hz141 => ?_)
        refine h_zne (tg := 20) (pc' := 7) rfl rfl rfl hz141 (fun c142 => ?_) (fun c142 => absurd c142 (by omega))
        clear hz141
        refine h_aload_n (pc' := 21) rfl rfl rfl ?_
        refine h_getI (pc' := 24) (v := 3) rfl rfl rfl rfl rfl es136.2.2.2.2.1 (fun z143 hz143 => ?_)
        refine h_zne (tg := 47) (pc' := 27) rfl rfl rfl hz143 (fun c144 => ?_) (fun c144 => absurd c144 (by omega))
        clear hz143
        refine h_aload_n (pc' := 48) rfl rfl rfl ?_
        refine h_getI (pc' := 51) (v := 3) rfl rfl rfl rfl rfl es136.2.2.2.2.1 (fun z145 hz145 => ?_)
        refine h_zne (tg := 61) (pc' := 54) rfl rfl rfl hz145 (fun c146 => ?_) (fun c146 => absurd c146 (by omega))
        clear hz145
        refine h_iload_n (pc' := 62) rfl rfl rfl ?_
        refine h_istore_n (pc' := 63) (M := [(3, .int (Int32.ofInt 0)), (0, .ref 98), (1, .int (Int32.ofInt 0)), (2, .int (Int32.ofInt 5))]) rfl rfl rfl rfl ?_
        refine h_aload_n (pc' := 64) rfl rfl rfl ?_
        refine h_call (sp := false) (pc' := 67) (M := [(0, .ref 98)]) rfl rfl rfl rfl rfl rfl rfl rfl ?_
        refine h_aload_n (pc' := 1) rfl rfl rfl ?_
        refine h_getI (pc' := 4) (v := 3) rfl rfl rfl rfl rfl es136.2.2.2.2.1 (fun z147 hz147 => ?_)
        refine h_zle (tg := 8) (pc' := 7) rfl rfl rfl hz147 (fun c148 => absurd c148 (by omega)) (fun c148 => ?_)
        clear hz147
        refine h_vret rfl rfl (h_Kn ?_)
        refine h_iload_n (pc' := 68) rfl rfl rfl ?_
        refine h_iret rfl rfl (h_Kv ?_)
        refine h_istore_n (pc' := 7) (M := [(1, .int (Int32.ofInt 0)), (0, .ref 98)]) rfl rfl rfl rfl ?_
        have oH149 : s136 98 8 = σ2 98 8 := es136.2.2.2.2.2.2.2.2.2.1
        have uH149 := tf_98_8 Is136
        refine h_wk [(0, .ref 98), (1, .int (Int32.ofInt 0))] ⟨rfl, rfl, trivial⟩ (lm_hi _ Is136 (Int32.ofInt 0) _ ci_0 (by omega) (fun H149 hH149 => (h_fgt (E := fun s => s 98 15 = σ2 98 15 ∧ s 98 16 = σ2 98 16 ∧ s 98 17 = σ2 98 17 ∧ s 98 18 = σ2 98 18 ∧ s 98 13 = 3 ∧ s 98 14 = (σ2 98 16) ∧ s 98 5 = σ2 98 5 ∧ s 98 6 = σ2 98 6 ∧ s 98 7 = σ2 98 7 ∧ s 98 8 = H149 ∧ s 98 9 = σ2 98 9 ∧ s 101 18 = σ2 101 18 ∧ s 101 25 = σ2 101 25 ∧ s 101 43 = σ2 101 43 ∧ s = h_up s136 98 8 H149) _ (if_98_8 Is136 (by omega)) (Fs136.up rfl) ⟨es136.1, es136.2.1, es136.2.2.1, es136.2.2.2.1, es136.2.2.2.2.1, es136.2.2.2.2.2.1, es136.2.2.2.2.2.2.1, es136.2.2.2.2.2.2.2.1, es136.2.2.2.2.2.2.2.2.1, rfl, es136.2.2.2.2.2.2.2.2.2.2.1, es136.2.2.2.2.2.2.2.2.2.2.2.1, es136.2.2.2.2.2.2.2.2.2.2.2.2.1, es136.2.2.2.2.2.2.2.2.2.2.2.2.2.1, rfl⟩ (fun s150 Is150 Fs150 (es150 : s150 98 15 = σ2 98 15 ∧ s150 98 16 = σ2 98 16 ∧ s150 98 17 = σ2 98 17 ∧ s150 98 18 = σ2 98 18 ∧ s150 98 13 = 3 ∧ s150 98 14 = (σ2 98 16) ∧ s150 98 5 = σ2 98 5 ∧ s150 98 6 = σ2 98 6 ∧ s150 98 7 = σ2 98 7 ∧ s150 98 8 = H149 ∧ s150 98 9 = σ2 98 9 ∧ s150 101 18 = σ2 101 18 ∧ s150 101 25 = σ2 101 25 ∧ s150 101 43 = σ2 101 43 ∧ s150 = h_up s136 98 8 H149) => ?_))))
        refine h_iload_n (pc' := 28) rfl rfl rfl ?_
        refine h_iret rfl rfl (d_ret hlv140 ?_)
        refine h_iast (pc' := 60) rfl rfl rfl rfl hz139 (by omega) (by omega) ci_0 (h_fgt (E := fun s => s 98 15 = σ2 98 15 ∧ s 98 16 = σ2 98 16 ∧ s 98 17 = σ2 98 17 ∧ s 98 18 = σ2 98 18 ∧ s 98 13 = 3 ∧ s 98 14 = (σ2 98 16) ∧ s 98 5 = σ2 98 5 ∧ s 98 6 = σ2 98 6 ∧ s 98 7 = σ2 98 7 ∧ s 98 8 = H149 ∧ s 98 9 = σ2 98 9 ∧ s 101 18 = σ2 101 18 ∧ s 101 25 = σ2 101 25 ∧ s 101 43 = σ2 101 43 ∧ s = h_up s150 101 ((19 + (2 * c2)) + 1) 0) _ (ip_101_4 Is150 (by omega) (by omega)) (Fs150.up rfl) ⟨es150.1, es150.2.1, es150.2.2.1, es150.2.2.2.1, es150.2.2.2.2.1, es150.2.2.2.2.2.1, es150.2.2.2.2.2.2.1, es150.2.2.2.2.2.2.2.1, es150.2.2.2.2.2.2.2.2.1, es150.2.2.2.2.2.2.2.2.2.1, es150.2.2.2.2.2.2.2.2.2.2.1, h_up_n2 (by omega) es150.2.2.2.2.2.2.2.2.2.2.2.1, h_up_n2 (by omega) es150.2.2.2.2.2.2.2.2.2.2.2.2.1, h_up_n2 (by omega) es150.2.2.2.2.2.2.2.2.2.2.2.2.2.1, rfl⟩ (fun s151 Is151 Fs151 (es151 : s151 98 15 = σ2 98 15 ∧ s151 98 16 = σ2 98 16 ∧ s151 98 17 = σ2 98 17 ∧ s151 98 18 = σ2 98 18 ∧ s151 98 13 = 3 ∧ s151 98 14 = (σ2 98 16) ∧ s151 98 5 = σ2 98 5 ∧ s151 98 6 = σ2 98 6 ∧ s151 98 7 = σ2 98 7 ∧ s151 98 8 = H149 ∧ s151 98 9 = σ2 98 9 ∧ s151 101 18 = σ2 101 18 ∧ s151 101 25 = σ2 101 25 ∧ s151 101 43 = σ2 101 43 ∧ s151 = h_up s150 101 ((19 + (2 * c2)) + 1) 0) => ?_))
        clear hz139
        refine h_aload_n (pc' := 61) rfl rfl rfl ?_
        refine h_getR (pc' := 64) rfl rfl rfl rfl rfl ?_
        refine h_iload_n (pc' := 65) rfl rfl rfl ?_
        refine h_bipush (pc' := 67) (x := (Int32.ofInt 6)) rfl rfl cb_6 ?_
        refine h_iadd (pc' := 68) (c := 25) rfl rfl ci_19 ci_6 rfl (by omega) (by omega) (fun z152 hz152 => ?_)
        refine h_dup2 (pc' := 69) rfl rfl rfl ?_
        refine h_iald (pc' := 70) (v := σ2 101 25) rfl rfl rfl hz152 (by omega) (by omega) es151.2.2.2.2.2.2.2.2.2.2.2.2.1 (fun z153 hz153 => ?_)
        have tz153 := ty_101_5 hI2 25 (by omega)
        refine h_iconst (pc' := 71) (x := (Int32.ofInt 1)) rfl rfl rfl ?_
        refine h_iadd (pc' := 72) rfl rfl hz153 ci_1 rfl (by omega) (by omega) (fun z154 hz154 => ?_)
        clear hz153
        refine h_iast (pc' := 73) rfl rfl rfl rfl hz152 (by omega) (by omega) hz154 (h_fgt (E := fun s => s 98 15 = σ2 98 15 ∧ s 98 16 = σ2 98 16 ∧ s 98 17 = σ2 98 17 ∧ s 98 18 = σ2 98 18 ∧ s 98 13 = 3 ∧ s 98 14 = (σ2 98 16) ∧ s 98 5 = σ2 98 5 ∧ s 98 6 = σ2 98 6 ∧ s 98 7 = σ2 98 7 ∧ s 98 8 = H149 ∧ s 98 9 = σ2 98 9 ∧ s 101 18 = σ2 101 18 ∧ s 101 25 = ((σ2 101 25) + 1) ∧ s 101 43 = σ2 101 43 ∧ s = h_up s151 101 25 ((σ2 101 25) + 1)) _ (ip_101_5 Is151 (by omega) (by omega)) (Fs151.up rfl) ⟨es151.1, es151.2.1, es151.2.2.1, es151.2.2.2.1, es151.2.2.2.2.1, es151.2.2.2.2.2.1, es151.2.2.2.2.2.2.1, es151.2.2.2.2.2.2.2.1, es151.2.2.2.2.2.2.2.2.1, es151.2.2.2.2.2.2.2.2.2.1, es151.2.2.2.2.2.2.2.2.2.2.1, es151.2.2.2.2.2.2.2.2.2.2.2.1, rfl, es151.2.2.2.2.2.2.2.2.2.2.2.2.2.1, rfl⟩ (fun s155 Is155 Fs155 (es155 : s155 98 15 = σ2 98 15 ∧ s155 98 16 = σ2 98 16 ∧ s155 98 17 = σ2 98 17 ∧ s155 98 18 = σ2 98 18 ∧ s155 98 13 = 3 ∧ s155 98 14 = (σ2 98 16) ∧ s155 98 5 = σ2 98 5 ∧ s155 98 6 = σ2 98 6 ∧ s155 98 7 = σ2 98 7 ∧ s155 98 8 = H149 ∧ s155 98 9 = σ2 98 9 ∧ s155 101 18 = σ2 101 18 ∧ s155 101 25 = ((σ2 101 25) + 1) ∧ s155 101 43 = σ2 101 43 ∧ s155 = h_up s151 101 25 ((σ2 101 25) + 1)) => ?_))
        clear hz152
        exfalso
        omega
    · clear hz82
      refine h_aload_n (pc' := 33) rfl rfl rfl ?_
      refine h_iconst (pc' := 34) (x := (Int32.ofInt 3)) rfl rfl rfl ?_
      refine h_aload_n (pc' := 35) rfl rfl rfl ?_
      refine h_getR (pc' := 38) rfl rfl rfl rfl rfl ?_
      refine h_getI (pc' := 41) (v := σ1 64 4) rfl rfl rfl rfl rfl rfl (fun z156 hz156 => ?_)
      have tz156 := tf_64_4 hI1
      refine h_call (sp := false) (pc' := 44) (M := [(0, .ref 63), (1, .int (Int32.ofInt 3)), (2, .int z156)]) rfl rfl rfl rfl rfl rfl rfl rfl ?_
      refine h_aload_n (pc' := 1) rfl rfl rfl ?_
      refine h_getI (pc' := 4) (v := σ1 63 2) rfl rfl rfl rfl rfl rfl (fun z157 hz157 => ?_)
      refine h_zne (tg := 17) (pc' := 7) rfl rfl rfl hz157 (fun c158 => absurd c158 (by omega)) (fun c158 => ?_)
      clear hz157
      refine h_aload_n (pc' := 8) rfl rfl rfl ?_
      refine h_iload_n (pc' := 9) rfl rfl rfl ?_
      refine h_put (pc' := 12) rfl rfl rfl rfl rfl rfl ci_3 rfl (h_fgt (E := fun s => s 64 2 = σ1 64 2 ∧ s 64 4 = σ1 64 4 ∧ s 64 3 = σ1 64 3 ∧ s 64 5 = σ1 64 5 ∧ s 63 2 = 3 ∧ s 63 3 = σ1 63 3 ∧ s 64 1 = σ1 64 1 ∧ s 66 8 = σ1 66 8 ∧ s 66 9 = σ1 66 9 ∧ s 66 10 = σ1 66 10 ∧ s 69 2 = σ1 69 2 ∧ s 72 2 = σ1 72 2 ∧ s 63 5 = σ1 63 5 ∧ s = h_up σ1 63 2 3) _ (if_63_2 hI1 (by omega)) (F1.up rfl) ⟨rfl, rfl, rfl, rfl, rfl, rfl, rfl, rfl, rfl, rfl, rfl, rfl, rfl, rfl⟩ (fun s159 Is159 Fs159 (es159 : s159 64 2 = σ1 64 2 ∧ s159 64 4 = σ1 64 4 ∧ s159 64 3 = σ1 64 3 ∧ s159 64 5 = σ1 64 5 ∧ s159 63 2 = 3 ∧ s159 63 3 = σ1 63 3 ∧ s159 64 1 = σ1 64 1 ∧ s159 66 8 = σ1 66 8 ∧ s159 66 9 = σ1 66 9 ∧ s159 66 10 = σ1 66 10 ∧ s159 69 2 = σ1 69 2 ∧ s159 72 2 = σ1 72 2 ∧ s159 63 5 = σ1 63 5 ∧ s159 = h_up σ1 63 2 3) => ?_))
      refine h_aload_n (pc' := 13) rfl rfl rfl ?_
      refine h_iload_n (pc' := 14) rfl rfl rfl ?_
      refine h_put (pc' := 17) rfl rfl rfl rfl rfl rfl hz156 rfl (h_fgt (E := fun s => s 64 2 = σ1 64 2 ∧ s 64 4 = σ1 64 4 ∧ s 64 3 = σ1 64 3 ∧ s 64 5 = σ1 64 5 ∧ s 63 2 = 3 ∧ s 63 3 = (σ1 64 4) ∧ s 64 1 = σ1 64 1 ∧ s 66 8 = σ1 66 8 ∧ s 66 9 = σ1 66 9 ∧ s 66 10 = σ1 66 10 ∧ s 69 2 = σ1 69 2 ∧ s 72 2 = σ1 72 2 ∧ s 63 5 = σ1 63 5 ∧ s = h_up s159 63 3 (σ1 64 4)) _ (if_63_3 Is159 (h_rgv hz156)) (Fs159.up rfl) ⟨es159.1, es159.2.1, es159.2.2.1, es159.2.2.2.1, es159.2.2.2.2.1, rfl, es159.2.2.2.2.2.2.1, es159.2.2.2.2.2.2.2.1, es159.2.2.2.2.2.2.2.2.1, es159.2.2.2.2.2.2.2.2.2.1, es159.2.2.2.2.2.2.2.2.2.2.1, es159.2.2.2.2.2.2.2.2.2.2.2.1, es159.2.2.2.2.2.2.2.2.2.2.2.2.1, rfl⟩ (fun s160 Is160 Fs160 (es160 : s160 64 2 = σ1 64 2 ∧ s160 64 4 = σ1 64 4 ∧ s160 64 3 = σ1 64 3 ∧ s160 64 5 = σ1 64 5 ∧ s160 63 2 = 3 ∧ s160 63 3 = (σ1 64 4) ∧ s160 64 1 = σ1 64 1 ∧ s160 66 8 = σ1 66 8 ∧ s160 66 9 = σ1 66 9 ∧ s160 66 10 = σ1 66 10 ∧ s160 69 2 = σ1 69 2 ∧ s160 72 2 = σ1 72 2 ∧ s160 63 5 = σ1 63 5 ∧ s160 = h_up s159 63 3 (σ1 64 4)) => ?_))
      refine h_vret rfl rfl (h_Kn ?_)
      refine h_aload_n (pc' := 45) rfl rfl rfl ?_
      refine h_iconst (pc' := 46) (x := (Int32.ofInt 5)) rfl rfl rfl ?_
      refine h_call (sp := false) (pc' := 49) (M := [(0, .ref 63), (1, .int (Int32.ofInt 5))]) rfl rfl rfl rfl rfl rfl rfl rfl ?_
      refine h_aload_n (pc' := 1) rfl rfl rfl ?_
      refine h_getI (pc' := 4) (v := 3) rfl rfl rfl rfl rfl es160.2.2.2.2.1 (fun z161 hz161 => ?_)
      refine h_zne (tg := 30) (pc' := 7) rfl rfl rfl hz161 (fun c162 => ?_) (fun c162 => absurd c162 (by omega))
      clear hz161
      refine h_aload_n (pc' := 31) rfl rfl rfl ?_
      refine h_getI (pc' := 34) (v := 3) rfl rfl rfl rfl rfl es160.2.2.2.2.1 (fun z163 hz163 => ?_)
      refine h_zne (tg := 60) (pc' := 37) rfl rfl rfl hz163 (fun c164 => ?_) (fun c164 => absurd c164 (by omega))
      clear hz163
      refine h_aload_n (pc' := 61) rfl rfl rfl ?_
      refine h_getR (pc' := 64) rfl rfl rfl rfl rfl ?_
      refine h_getI (pc' := 67) (v := σ1 64 5) rfl rfl rfl rfl rfl es160.2.2.2.1 (fun z165 hz165 => ?_)
      refine h_istore_n (pc' := 68) (M := [(2, .int z165), (0, .ref 63), (1, .int (Int32.ofInt 5))]) rfl rfl rfl rfl ?_
      refine h_aload_n (pc' := 69) rfl rfl rfl ?_
      refine h_call (sp := false) (pc' := 72) (M := [(0, .ref 63)]) rfl rfl rfl rfl rfl rfl rfl rfl ?_
      refine h_aload_n (pc' := 1) rfl rfl rfl ?_
      refine h_getI (pc' := 4) (v := 3) rfl rfl rfl rfl rfl es160.2.2.2.2.1 (fun z166 hz166 => ?_)
      refine h_zne (tg := 37) (pc' := 7) rfl rfl rfl hz166 (fun c167 => ?_) (fun c167 => absurd c167 (by omega))
      clear hz166
      refine h_vret rfl rfl (h_Kn ?_)
      refine h_iload_n (pc' := 73) rfl rfl rfl ?_
      refine h_iret rfl rfl (h_Kv ?_)
      refine h_istore_n (pc' := 50) (M := [(3, .int z165), (0, .ref 63), (1, .ref 72), (2, .int x2)]) rfl rfl rfl rfl ?_
      refine h_aload_n (pc' := 51) rfl rfl rfl ?_
      refine h_getI (pc' := 54) (v := 3) rfl rfl rfl rfl rfl es160.2.2.2.2.1 (fun z168 hz168 => ?_)
      refine h_zne (tg := 64) (pc' := 57) rfl rfl rfl hz168 (fun c169 => ?_) (fun c169 => absurd c169 (by omega))
      clear hz168
      refine d_toM (g_inj ns) hl2 hR2 (fun lvw170 memw170 hlw170 hRw170 => ?_)
      show h_T g_P (g_Y ns) 151 5 [(0, .ref 98), (1, .int (Int32.ofInt 19)), (2, .int y2), (3, .int y3)] [] σ2 _
      refine h_aload_n (pc' := 6) rfl rfl rfl ?_
      refine h_getI (pc' := 9) (v := σ2 98 13) rfl rfl rfl rfl rfl rfl (fun z171 hz171 => ?_)
      have tz171 := tf_98_13 hI2
      refine h_zne (tg := 33) (pc' := 12) rfl rfl rfl hz171 (fun c172 => absurd c172 (by omega)) (fun c172 => ?_)
      clear hz171
      refine h_aload_n (pc' := 13) rfl rfl rfl ?_
      refine h_getI (pc' := 16) (v := σ2 98 17) rfl rfl rfl rfl rfl rfl (fun z173 hz173 => ?_)
      have tz173 := tf_98_17 hI2
      refine h_iconst (pc' := 17) (x := (Int32.ofInt 2)) rfl rfl rfl ?_
      refine h_cne (tg := 33) (pc' := 20) rfl rfl rfl hz173 ci_2 (fun c174 => absurd c174 (by omega)) (fun c174 => ?_)
      clear hz173
      refine h_aload_n (pc' := 21) rfl rfl rfl ?_
      refine h_getI (pc' := 24) (v := σ2 98 18) rfl rfl rfl rfl rfl rfl (fun z175 hz175 => ?_)
      have tz175 := tf_98_18 hI2
      refine h_iload_n (pc' := 25) rfl rfl rfl ?_
      refine h_cne (tg := 33) (pc' := 28) rfl rfl rfl hz175 hy3 (fun c176 => ?_) (fun c176 => ?_)
      · clear hz175
        refine h_aload_n (pc' := 34) rfl rfl rfl ?_
        refine h_getR (pc' := 37) rfl rfl rfl rfl rfl ?_
        refine h_iload_n (pc' := 38) rfl rfl rfl ?_
        refine h_iconst (pc' := 39) (x := (Int32.ofInt 2)) rfl rfl rfl ?_
        refine h_iload_n (pc' := 40) rfl rfl rfl ?_
        refine h_imul (pc' := 41) rfl rfl ci_2 hy2 rfl (by omega) (by omega) (fun z177 hz177 => ?_)
        refine h_iadd (pc' := 42) rfl rfl ci_19 hz177 rfl (by omega) (by omega) (fun z178 hz178 => ?_)
        clear hz177
        refine h_iload_n (pc' := 43) rfl rfl rfl ?_
        refine h_iast (pc' := 44) rfl rfl rfl rfl hz178 (by omega) (by omega) hy3 (h_fgt (E := fun s => s 98 15 = σ2 98 15 ∧ s 98 16 = σ2 98 16 ∧ s 98 17 = σ2 98 17 ∧ s 98 18 = σ2 98 18 ∧ s 98 13 = σ2 98 13 ∧ s 98 14 = σ2 98 14 ∧ s 98 5 = σ2 98 5 ∧ s 98 6 = σ2 98 6 ∧ s 98 7 = σ2 98 7 ∧ s 98 8 = σ2 98 8 ∧ s 98 9 = σ2 98 9 ∧ s 101 18 = σ2 101 18 ∧ s 101 25 = σ2 101 25 ∧ s 101 43 = σ2 101 43 ∧ s = h_up σ2 101 (19 + (2 * c2)) c3) _ (ip_101_4 hI2 (by omega) (by omega)) (F2.up rfl) ⟨rfl, rfl, rfl, rfl, rfl, rfl, rfl, rfl, rfl, rfl, rfl, h_up_n2 (by omega) rfl, h_up_n2 (by omega) rfl, h_up_n2 (by omega) rfl, rfl⟩ (fun s179 Is179 Fs179 (es179 : s179 98 15 = σ2 98 15 ∧ s179 98 16 = σ2 98 16 ∧ s179 98 17 = σ2 98 17 ∧ s179 98 18 = σ2 98 18 ∧ s179 98 13 = σ2 98 13 ∧ s179 98 14 = σ2 98 14 ∧ s179 98 5 = σ2 98 5 ∧ s179 98 6 = σ2 98 6 ∧ s179 98 7 = σ2 98 7 ∧ s179 98 8 = σ2 98 8 ∧ s179 98 9 = σ2 98 9 ∧ s179 101 18 = σ2 101 18 ∧ s179 101 25 = σ2 101 25 ∧ s179 101 43 = σ2 101 43 ∧ s179 = h_up σ2 101 (19 + (2 * c2)) c3) => ?_))
        clear hz178
        refine h_aload_n (pc' := 45) rfl rfl rfl ?_
        refine h_getR (pc' := 48) rfl rfl rfl rfl rfl ?_
        refine h_iload_n (pc' := 49) rfl rfl rfl ?_
        refine h_iconst (pc' := 50) (x := (Int32.ofInt 2)) rfl rfl rfl ?_
        refine h_iload_n (pc' := 51) rfl rfl rfl ?_
        refine h_imul (pc' := 52) rfl rfl ci_2 hy2 rfl (by omega) (by omega) (fun z180 hz180 => ?_)
        refine h_iadd (pc' := 53) rfl rfl ci_19 hz180 rfl (by omega) (by omega) (fun z181 hz181 => ?_)
        clear hz180
        refine h_iconst (pc' := 54) (x := (Int32.ofInt 1)) rfl rfl rfl ?_
        refine h_iadd (pc' := 55) rfl rfl hz181 ci_1 rfl (by omega) (by omega) (fun z182 hz182 => ?_)
        clear hz181
        refine h_aload_n (pc' := 56) rfl rfl rfl ?_
        refine d_call (g_inj ns) (pc' := 59) (m := 150) (M := [(0, .ref 98)]) (rest := [.int z182, .ref 101]) ⟨false, _, _, _, _, _, _, rfl, rfl, rfl, rfl, rfl, rfl, rfl⟩ (fun lv183 hlv183 => ?_)
        refine h_aload_n (pc' := 1) rfl rfl rfl ?_
        refine h_iconst (pc' := 2) (x := (Int32.ofInt 0)) rfl rfl rfl ?_
        refine h_iconst (pc' := 3) (x := (Int32.ofInt 5)) rfl rfl rfl ?_
        exfalso
        omega
      · clear hz175
        refine h_aload_n (pc' := 29) rfl rfl rfl ?_
        refine h_iconst (pc' := 30) (x := (Int32.ofInt 3)) rfl rfl rfl ?_
        refine h_call (sp := false) (pc' := 33) (M := [(0, .ref 98), (1, .int (Int32.ofInt 3))]) rfl rfl rfl rfl rfl rfl rfl rfl ?_
        refine h_aload_n (pc' := 1) rfl rfl rfl ?_
        refine h_getI (pc' := 4) (v := σ2 98 13) rfl rfl rfl rfl rfl rfl (fun z184 hz184 => ?_)
        refine h_zne (tg := 20) (pc' := 7) rfl rfl rfl hz184 (fun c185 => absurd c185 (by omega)) (fun c185 => ?_)
        clear hz184
        refine h_aload_n (pc' := 8) rfl rfl rfl ?_
        refine h_iload_n (pc' := 9) rfl rfl rfl ?_
        refine h_put (pc' := 12) rfl rfl rfl rfl rfl rfl ci_3 rfl (h_fgt (E := fun s => s 98 15 = σ2 98 15 ∧ s 98 16 = σ2 98 16 ∧ s 98 17 = σ2 98 17 ∧ s 98 18 = σ2 98 18 ∧ s 98 13 = 3 ∧ s 98 14 = σ2 98 14 ∧ s 98 5 = σ2 98 5 ∧ s 98 6 = σ2 98 6 ∧ s 98 7 = σ2 98 7 ∧ s 98 8 = σ2 98 8 ∧ s 98 9 = σ2 98 9 ∧ s 101 18 = σ2 101 18 ∧ s 101 25 = σ2 101 25 ∧ s 101 43 = σ2 101 43 ∧ s = h_up σ2 98 13 3) _ (if_98_13 hI2 (by omega)) (F2.up rfl) ⟨rfl, rfl, rfl, rfl, rfl, rfl, rfl, rfl, rfl, rfl, rfl, rfl, rfl, rfl, rfl⟩ (fun s186 Is186 Fs186 (es186 : s186 98 15 = σ2 98 15 ∧ s186 98 16 = σ2 98 16 ∧ s186 98 17 = σ2 98 17 ∧ s186 98 18 = σ2 98 18 ∧ s186 98 13 = 3 ∧ s186 98 14 = σ2 98 14 ∧ s186 98 5 = σ2 98 5 ∧ s186 98 6 = σ2 98 6 ∧ s186 98 7 = σ2 98 7 ∧ s186 98 8 = σ2 98 8 ∧ s186 98 9 = σ2 98 9 ∧ s186 101 18 = σ2 101 18 ∧ s186 101 25 = σ2 101 25 ∧ s186 101 43 = σ2 101 43 ∧ s186 = h_up σ2 98 13 3) => ?_))
        refine h_aload_n (pc' := 13) rfl rfl rfl ?_
        refine h_aload_n (pc' := 14) rfl rfl rfl ?_
        refine h_getI (pc' := 17) (v := σ2 98 16) rfl rfl rfl rfl rfl es186.2.1 (fun z187 hz187 => ?_)
        have tz187 := tf_98_16 hI2
        refine h_put (pc' := 20) rfl rfl rfl rfl rfl rfl hz187 rfl (h_fgt (E := fun s => s 98 15 = σ2 98 15 ∧ s 98 16 = σ2 98 16 ∧ s 98 17 = σ2 98 17 ∧ s 98 18 = σ2 98 18 ∧ s 98 13 = 3 ∧ s 98 14 = (σ2 98 16) ∧ s 98 5 = σ2 98 5 ∧ s 98 6 = σ2 98 6 ∧ s 98 7 = σ2 98 7 ∧ s 98 8 = σ2 98 8 ∧ s 98 9 = σ2 98 9 ∧ s 101 18 = σ2 101 18 ∧ s 101 25 = σ2 101 25 ∧ s 101 43 = σ2 101 43 ∧ s = h_up s186 98 14 (σ2 98 16)) _ (if_98_14 Is186 (h_rgv hz187)) (Fs186.up rfl) ⟨es186.1, es186.2.1, es186.2.2.1, es186.2.2.2.1, es186.2.2.2.2.1, rfl, es186.2.2.2.2.2.2.1, es186.2.2.2.2.2.2.2.1, es186.2.2.2.2.2.2.2.2.1, es186.2.2.2.2.2.2.2.2.2.1, es186.2.2.2.2.2.2.2.2.2.2.1, es186.2.2.2.2.2.2.2.2.2.2.2.1, es186.2.2.2.2.2.2.2.2.2.2.2.2.1, es186.2.2.2.2.2.2.2.2.2.2.2.2.2.1, rfl⟩ (fun s188 Is188 Fs188 (es188 : s188 98 15 = σ2 98 15 ∧ s188 98 16 = σ2 98 16 ∧ s188 98 17 = σ2 98 17 ∧ s188 98 18 = σ2 98 18 ∧ s188 98 13 = 3 ∧ s188 98 14 = (σ2 98 16) ∧ s188 98 5 = σ2 98 5 ∧ s188 98 6 = σ2 98 6 ∧ s188 98 7 = σ2 98 7 ∧ s188 98 8 = σ2 98 8 ∧ s188 98 9 = σ2 98 9 ∧ s188 101 18 = σ2 101 18 ∧ s188 101 25 = σ2 101 25 ∧ s188 101 43 = σ2 101 43 ∧ s188 = h_up s186 98 14 (σ2 98 16)) => ?_))
        refine h_vret rfl rfl (h_Kn ?_)
        refine h_aload_n (pc' := 34) rfl rfl rfl ?_
        refine h_getR (pc' := 37) rfl rfl rfl rfl rfl ?_
        refine h_iload_n (pc' := 38) rfl rfl rfl ?_
        refine h_iconst (pc' := 39) (x := (Int32.ofInt 2)) rfl rfl rfl ?_
        refine h_iload_n (pc' := 40) rfl rfl rfl ?_
        refine h_imul (pc' := 41) rfl rfl ci_2 hy2 rfl (by omega) (by omega) (fun z189 hz189 => ?_)
        refine h_iadd (pc' := 42) rfl rfl ci_19 hz189 rfl (by omega) (by omega) (fun z190 hz190 => ?_)
        clear hz189
        refine h_iload_n (pc' := 43) rfl rfl rfl ?_
        refine h_iast (pc' := 44) rfl rfl rfl rfl hz190 (by omega) (by omega) hy3 (h_fgt (E := fun s => s 98 15 = σ2 98 15 ∧ s 98 16 = σ2 98 16 ∧ s 98 17 = σ2 98 17 ∧ s 98 18 = σ2 98 18 ∧ s 98 13 = 3 ∧ s 98 14 = (σ2 98 16) ∧ s 98 5 = σ2 98 5 ∧ s 98 6 = σ2 98 6 ∧ s 98 7 = σ2 98 7 ∧ s 98 8 = σ2 98 8 ∧ s 98 9 = σ2 98 9 ∧ s 101 18 = σ2 101 18 ∧ s 101 25 = σ2 101 25 ∧ s 101 43 = σ2 101 43 ∧ s = h_up s188 101 (19 + (2 * c2)) c3) _ (ip_101_4 Is188 (by omega) (by omega)) (Fs188.up rfl) ⟨es188.1, es188.2.1, es188.2.2.1, es188.2.2.2.1, es188.2.2.2.2.1, es188.2.2.2.2.2.1, es188.2.2.2.2.2.2.1, es188.2.2.2.2.2.2.2.1, es188.2.2.2.2.2.2.2.2.1, es188.2.2.2.2.2.2.2.2.2.1, es188.2.2.2.2.2.2.2.2.2.2.1, h_up_n2 (by omega) es188.2.2.2.2.2.2.2.2.2.2.2.1, h_up_n2 (by omega) es188.2.2.2.2.2.2.2.2.2.2.2.2.1, h_up_n2 (by omega) es188.2.2.2.2.2.2.2.2.2.2.2.2.2.1, rfl⟩ (fun s191 Is191 Fs191 (es191 : s191 98 15 = σ2 98 15 ∧ s191 98 16 = σ2 98 16 ∧ s191 98 17 = σ2 98 17 ∧ s191 98 18 = σ2 98 18 ∧ s191 98 13 = 3 ∧ s191 98 14 = (σ2 98 16) ∧ s191 98 5 = σ2 98 5 ∧ s191 98 6 = σ2 98 6 ∧ s191 98 7 = σ2 98 7 ∧ s191 98 8 = σ2 98 8 ∧ s191 98 9 = σ2 98 9 ∧ s191 101 18 = σ2 101 18 ∧ s191 101 25 = σ2 101 25 ∧ s191 101 43 = σ2 101 43 ∧ s191 = h_up s188 101 (19 + (2 * c2)) c3) => ?_))
        clear hz190
        refine h_aload_n (pc' := 45) rfl rfl rfl ?_
        refine h_getR (pc' := 48) rfl rfl rfl rfl rfl ?_
        refine h_iload_n (pc' := 49) rfl rfl rfl ?_
        refine h_iconst (pc' := 50) (x := (Int32.ofInt 2)) rfl rfl rfl ?_
        refine h_iload_n (pc' := 51) rfl rfl rfl ?_
        refine h_imul (pc' := 52) rfl rfl ci_2 hy2 rfl (by omega) (by omega) (fun z192 hz192 => ?_)
        refine h_iadd (pc' := 53) rfl rfl ci_19 hz192 rfl (by omega) (by omega) (fun z193 hz193 => ?_)
        clear hz192
        refine h_iconst (pc' := 54) (x := (Int32.ofInt 1)) rfl rfl rfl ?_
        refine h_iadd (pc' := 55) rfl rfl hz193 ci_1 rfl (by omega) (by omega) (fun z194 hz194 => ?_)
        clear hz193
        refine h_aload_n (pc' := 56) rfl rfl rfl ?_
        refine d_call (g_inj ns) (pc' := 59) (m := 150) (M := [(0, .ref 98)]) (rest := [.int z194, .ref 101]) ⟨false, _, _, _, _, _, _, rfl, rfl, rfl, rfl, rfl, rfl, rfl⟩ (fun lv195 hlv195 => ?_)
        refine h_aload_n (pc' := 1) rfl rfl rfl ?_
        refine h_iconst (pc' := 2) (x := (Int32.ofInt 0)) rfl rfl rfl ?_
        refine h_iconst (pc' := 3) (x := (Int32.ofInt 5)) rfl rfl rfl ?_
        refine h_call (sp := false) (pc' := 6) (M := [(0, .ref 98), (1, .int (Int32.ofInt 0)), (2, .int (Int32.ofInt 5))]) rfl rfl rfl rfl rfl rfl rfl rfl ?_
        refine h_aload_n (pc' := 1) rfl rfl rfl ?_
        refine h_getI (pc' := 4) (v := 3) rfl rfl rfl rfl rfl es191.2.2.2.2.1 (fun z196 hz196 => ?_)
        refine h_zne (tg := 20) (pc' := 7) rfl rfl rfl hz196 (fun c197 => ?_) (fun c197 => absurd c197 (by omega))
        clear hz196
        refine h_aload_n (pc' := 21) rfl rfl rfl ?_
        refine h_getI (pc' := 24) (v := 3) rfl rfl rfl rfl rfl es191.2.2.2.2.1 (fun z198 hz198 => ?_)
        refine h_zne (tg := 47) (pc' := 27) rfl rfl rfl hz198 (fun c199 => ?_) (fun c199 => absurd c199 (by omega))
        clear hz198
        refine h_aload_n (pc' := 48) rfl rfl rfl ?_
        refine h_getI (pc' := 51) (v := 3) rfl rfl rfl rfl rfl es191.2.2.2.2.1 (fun z200 hz200 => ?_)
        refine h_zne (tg := 61) (pc' := 54) rfl rfl rfl hz200 (fun c201 => ?_) (fun c201 => absurd c201 (by omega))
        clear hz200
        refine h_iload_n (pc' := 62) rfl rfl rfl ?_
        refine h_istore_n (pc' := 63) (M := [(3, .int (Int32.ofInt 0)), (0, .ref 98), (1, .int (Int32.ofInt 0)), (2, .int (Int32.ofInt 5))]) rfl rfl rfl rfl ?_
        refine h_aload_n (pc' := 64) rfl rfl rfl ?_
        refine h_call (sp := false) (pc' := 67) (M := [(0, .ref 98)]) rfl rfl rfl rfl rfl rfl rfl rfl ?_
        refine h_aload_n (pc' := 1) rfl rfl rfl ?_
        refine h_getI (pc' := 4) (v := 3) rfl rfl rfl rfl rfl es191.2.2.2.2.1 (fun z202 hz202 => ?_)
        refine h_zle (tg := 8) (pc' := 7) rfl rfl rfl hz202 (fun c203 => absurd c203 (by omega)) (fun c203 => ?_)
        clear hz202
        refine h_vret rfl rfl (h_Kn ?_)
        refine h_iload_n (pc' := 68) rfl rfl rfl ?_
        refine h_iret rfl rfl (h_Kv ?_)
        refine h_istore_n (pc' := 7) (M := [(1, .int (Int32.ofInt 0)), (0, .ref 98)]) rfl rfl rfl rfl ?_
        have oH204 : s191 98 8 = σ2 98 8 := es191.2.2.2.2.2.2.2.2.2.1
        have uH204 := tf_98_8 Is191
        refine h_wk [(0, .ref 98), (1, .int (Int32.ofInt 0))] ⟨rfl, rfl, trivial⟩ (lm_hi _ Is191 (Int32.ofInt 0) _ ci_0 (by omega) (fun H204 hH204 => (h_fgt (E := fun s => s 98 15 = σ2 98 15 ∧ s 98 16 = σ2 98 16 ∧ s 98 17 = σ2 98 17 ∧ s 98 18 = σ2 98 18 ∧ s 98 13 = 3 ∧ s 98 14 = (σ2 98 16) ∧ s 98 5 = σ2 98 5 ∧ s 98 6 = σ2 98 6 ∧ s 98 7 = σ2 98 7 ∧ s 98 8 = H204 ∧ s 98 9 = σ2 98 9 ∧ s 101 18 = σ2 101 18 ∧ s 101 25 = σ2 101 25 ∧ s 101 43 = σ2 101 43 ∧ s = h_up s191 98 8 H204) _ (if_98_8 Is191 (by omega)) (Fs191.up rfl) ⟨es191.1, es191.2.1, es191.2.2.1, es191.2.2.2.1, es191.2.2.2.2.1, es191.2.2.2.2.2.1, es191.2.2.2.2.2.2.1, es191.2.2.2.2.2.2.2.1, es191.2.2.2.2.2.2.2.2.1, rfl, es191.2.2.2.2.2.2.2.2.2.2.1, es191.2.2.2.2.2.2.2.2.2.2.2.1, es191.2.2.2.2.2.2.2.2.2.2.2.2.1, es191.2.2.2.2.2.2.2.2.2.2.2.2.2.1, rfl⟩ (fun s205 Is205 Fs205 (es205 : s205 98 15 = σ2 98 15 ∧ s205 98 16 = σ2 98 16 ∧ s205 98 17 = σ2 98 17 ∧ s205 98 18 = σ2 98 18 ∧ s205 98 13 = 3 ∧ s205 98 14 = (σ2 98 16) ∧ s205 98 5 = σ2 98 5 ∧ s205 98 6 = σ2 98 6 ∧ s205 98 7 = σ2 98 7 ∧ s205 98 8 = H204 ∧ s205 98 9 = σ2 98 9 ∧ s205 101 18 = σ2 101 18 ∧ s205 101 25 = σ2 101 25 ∧ s205 101 43 = σ2 101 43 ∧ s205 = h_up s191 98 8 H204) => ?_))))
        refine h_iload_n (pc' := 28) rfl rfl rfl ?_
        refine h_iret rfl rfl (d_ret hlv195 ?_)
        refine h_iast (pc' := 60) rfl rfl rfl rfl hz194 (by omega) (by omega) ci_0 (h_fgt (E := fun s => s 98 15 = σ2 98 15 ∧ s 98 16 = σ2 98 16 ∧ s 98 17 = σ2 98 17 ∧ s 98 18 = σ2 98 18 ∧ s 98 13 = 3 ∧ s 98 14 = (σ2 98 16) ∧ s 98 5 = σ2 98 5 ∧ s 98 6 = σ2 98 6 ∧ s 98 7 = σ2 98 7 ∧ s 98 8 = H204 ∧ s 98 9 = σ2 98 9 ∧ s 101 18 = σ2 101 18 ∧ s 101 25 = σ2 101 25 ∧ s 101 43 = σ2 101 43 ∧ s = h_up s205 101 ((19 + (2 * c2)) + 1) 0) _ (ip_101_4 Is205 (by omega) (by omega)) (Fs205.up rfl) ⟨es205.1, es205.2.1, es205.2.2.1, es205.2.2.2.1, es205.2.2.2.2.1, es205.2.2.2.2.2.1, es205.2.2.2.2.2.2.1, es205.2.2.2.2.2.2.2.1, es205.2.2.2.2.2.2.2.2.1, es205.2.2.2.2.2.2.2.2.2.1, es205.2.2.2.2.2.2.2.2.2.2.1, h_up_n2 (by omega) es205.2.2.2.2.2.2.2.2.2.2.2.1, h_up_n2 (by omega) es205.2.2.2.2.2.2.2.2.2.2.2.2.1, h_up_n2 (by omega) es205.2.2.2.2.2.2.2.2.2.2.2.2.2.1, rfl⟩ (fun s206 Is206 Fs206 (es206 : s206 98 15 = σ2 98 15 ∧ s206 98 16 = σ2 98 16 ∧ s206 98 17 = σ2 98 17 ∧ s206 98 18 = σ2 98 18 ∧ s206 98 13 = 3 ∧ s206 98 14 = (σ2 98 16) ∧ s206 98 5 = σ2 98 5 ∧ s206 98 6 = σ2 98 6 ∧ s206 98 7 = σ2 98 7 ∧ s206 98 8 = H204 ∧ s206 98 9 = σ2 98 9 ∧ s206 101 18 = σ2 101 18 ∧ s206 101 25 = σ2 101 25 ∧ s206 101 43 = σ2 101 43 ∧ s206 = h_up s205 101 ((19 + (2 * c2)) + 1) 0) => ?_))
        clear hz194
        refine h_aload_n (pc' := 61) rfl rfl rfl ?_
        refine h_getR (pc' := 64) rfl rfl rfl rfl rfl ?_
        refine h_iload_n (pc' := 65) rfl rfl rfl ?_
        refine h_bipush (pc' := 67) (x := (Int32.ofInt 6)) rfl rfl cb_6 ?_
        refine h_iadd (pc' := 68) (c := 25) rfl rfl ci_19 ci_6 rfl (by omega) (by omega) (fun z207 hz207 => ?_)
        refine h_dup2 (pc' := 69) rfl rfl rfl ?_
        refine h_iald (pc' := 70) (v := σ2 101 25) rfl rfl rfl hz207 (by omega) (by omega) es206.2.2.2.2.2.2.2.2.2.2.2.2.1 (fun z208 hz208 => ?_)
        have tz208 := ty_101_5 hI2 25 (by omega)
        refine h_iconst (pc' := 71) (x := (Int32.ofInt 1)) rfl rfl rfl ?_
        refine h_iadd (pc' := 72) rfl rfl hz208 ci_1 rfl (by omega) (by omega) (fun z209 hz209 => ?_)
        clear hz208
        refine h_iast (pc' := 73) rfl rfl rfl rfl hz207 (by omega) (by omega) hz209 (h_fgt (E := fun s => s 98 15 = σ2 98 15 ∧ s 98 16 = σ2 98 16 ∧ s 98 17 = σ2 98 17 ∧ s 98 18 = σ2 98 18 ∧ s 98 13 = 3 ∧ s 98 14 = (σ2 98 16) ∧ s 98 5 = σ2 98 5 ∧ s 98 6 = σ2 98 6 ∧ s 98 7 = σ2 98 7 ∧ s 98 8 = H204 ∧ s 98 9 = σ2 98 9 ∧ s 101 18 = σ2 101 18 ∧ s 101 25 = ((σ2 101 25) + 1) ∧ s 101 43 = σ2 101 43 ∧ s = h_up s206 101 25 ((σ2 101 25) + 1)) _ (ip_101_5 Is206 (by omega) (by omega)) (Fs206.up rfl) ⟨es206.1, es206.2.1, es206.2.2.1, es206.2.2.2.1, es206.2.2.2.2.1, es206.2.2.2.2.2.1, es206.2.2.2.2.2.2.1, es206.2.2.2.2.2.2.2.1, es206.2.2.2.2.2.2.2.2.1, es206.2.2.2.2.2.2.2.2.2.1, es206.2.2.2.2.2.2.2.2.2.2.1, es206.2.2.2.2.2.2.2.2.2.2.2.1, rfl, es206.2.2.2.2.2.2.2.2.2.2.2.2.2.1, rfl⟩ (fun s210 Is210 Fs210 (es210 : s210 98 15 = σ2 98 15 ∧ s210 98 16 = σ2 98 16 ∧ s210 98 17 = σ2 98 17 ∧ s210 98 18 = σ2 98 18 ∧ s210 98 13 = 3 ∧ s210 98 14 = (σ2 98 16) ∧ s210 98 5 = σ2 98 5 ∧ s210 98 6 = σ2 98 6 ∧ s210 98 7 = σ2 98 7 ∧ s210 98 8 = H204 ∧ s210 98 9 = σ2 98 9 ∧ s210 101 18 = σ2 101 18 ∧ s210 101 25 = ((σ2 101 25) + 1) ∧ s210 101 43 = σ2 101 43 ∧ s210 = h_up s206 101 25 ((σ2 101 25) + 1)) => ?_))
        clear hz207
        refine d_toL (g_inj ns) hlw170 hRw170 (fun lvw211 memw211 hlw211 hRw211 => ?_)
        show h_T g_P (g_Y ns) 60 64 [(3, .int z165), (0, .ref 63), (1, .ref 72), (2, .int x2)] [] s160 _
        exact h_wk [(0, .ref 63)] ⟨rfl, trivial⟩ (kx0 _ _ Is160 Is210 Fs160 Fs210 (by omega) (by omega) (by omega) (by omega) (by omega) (fun h => absurd h (by omega)) (Or.inl ⟨by omega, by omega, by omega, by omega⟩) _ _ (h_al_ok ⟨rfl, trivial⟩ hlw211) hRw211)
  · show h_T g_P (g_Y ns) 60 14 [(0, .ref 63), (1, .ref 72), (2, .int x2)] [] σ1 _
    refine h_aload_n (pc' := 15) rfl rfl rfl ?_
    refine h_call (sp := false) (pc' := 18) (M := [(0, .ref 63)]) rfl rfl rfl rfl rfl rfl rfl rfl ?_
    refine h_aload_n (pc' := 1) rfl rfl rfl ?_
    refine h_getI (pc' := 4) (v := σ1 63 2) rfl rfl rfl rfl rfl rfl (fun z212 hz212 => ?_)
    have tz212 := tf_63_2 hI1
    refine h_zne (tg := 22) (pc' := 7) rfl rfl rfl hz212 (fun c213 => absurd c213 (by omega)) (fun c213 => ?_)
    clear hz212
    refine h_aload_n (pc' := 8) rfl rfl rfl ?_
    refine h_getR (pc' := 11) rfl rfl rfl rfl rfl ?_
    refine h_getI (pc' := 14) (v := σ1 64 3) rfl rfl rfl rfl rfl rfl (fun z214 hz214 => ?_)
    have tz214 := tf_64_3 hI1
    refine h_iconst (pc' := 15) (x := (Int32.ofInt 2)) rfl rfl rfl ?_
    refine h_cne (tg := 22) (pc' := 18) rfl rfl rfl hz214 ci_2 (fun c215 => ?_) (fun c215 => absurd c215 (by omega))
    clear hz214
    refine h_iconst (pc' := 23) (x := (Int32.ofInt 0)) rfl rfl rfl ?_
    refine h_zret rfl rfl ci_0 (by omega) (h_Kv ?_)
    refine h_zeq (tg := 44) (pc' := 21) rfl rfl rfl ci_0 (fun c216 => ?_) (fun c216 => absurd c216 (by omega))
    refine h_aload_n (pc' := 45) rfl rfl rfl ?_
    refine h_iconst (pc' := 46) (x := (Int32.ofInt 5)) rfl rfl rfl ?_
    refine d_toM (g_inj ns) hl2 hR2 (fun lvw217 memw217 hlw217 hRw217 => ?_)
    show h_T g_P (g_Y ns) 151 5 [(0, .ref 98), (1, .int (Int32.ofInt 19)), (2, .int y2), (3, .int y3)] [] σ2 _
    refine h_aload_n (pc' := 6) rfl rfl rfl ?_
    refine h_getI (pc' := 9) (v := σ2 98 13) rfl rfl rfl rfl rfl rfl (fun z218 hz218 => ?_)
    have tz218 := tf_98_13 hI2
    refine h_zne (tg := 33) (pc' := 12) rfl rfl rfl hz218 (fun c219 => absurd c219 (by omega)) (fun c219 => ?_)
    clear hz218
    refine h_aload_n (pc' := 13) rfl rfl rfl ?_
    refine h_getI (pc' := 16) (v := σ2 98 17) rfl rfl rfl rfl rfl rfl (fun z220 hz220 => ?_)
    have tz220 := tf_98_17 hI2
    refine h_iconst (pc' := 17) (x := (Int32.ofInt 2)) rfl rfl rfl ?_
    refine h_cne (tg := 33) (pc' := 20) rfl rfl rfl hz220 ci_2 (fun c221 => ?_) (fun c221 => absurd c221 (by omega))
    clear hz220
    refine h_aload_n (pc' := 34) rfl rfl rfl ?_
    refine h_getR (pc' := 37) rfl rfl rfl rfl rfl ?_
    refine h_iload_n (pc' := 38) rfl rfl rfl ?_
    refine h_iconst (pc' := 39) (x := (Int32.ofInt 2)) rfl rfl rfl ?_
    refine h_iload_n (pc' := 40) rfl rfl rfl ?_
    refine h_imul (pc' := 41) rfl rfl ci_2 hy2 rfl (by omega) (by omega) (fun z222 hz222 => ?_)
    refine h_iadd (pc' := 42) rfl rfl ci_19 hz222 rfl (by omega) (by omega) (fun z223 hz223 => ?_)
    clear hz222
    refine h_iload_n (pc' := 43) rfl rfl rfl ?_
    refine h_iast (pc' := 44) rfl rfl rfl rfl hz223 (by omega) (by omega) hy3 (h_fgt (E := fun s => s 98 15 = σ2 98 15 ∧ s 98 16 = σ2 98 16 ∧ s 98 17 = σ2 98 17 ∧ s 98 18 = σ2 98 18 ∧ s 98 13 = σ2 98 13 ∧ s 98 14 = σ2 98 14 ∧ s 98 5 = σ2 98 5 ∧ s 98 6 = σ2 98 6 ∧ s 98 7 = σ2 98 7 ∧ s 98 8 = σ2 98 8 ∧ s 98 9 = σ2 98 9 ∧ s 101 18 = σ2 101 18 ∧ s 101 25 = σ2 101 25 ∧ s 101 43 = σ2 101 43 ∧ s = h_up σ2 101 (19 + (2 * c2)) c3) _ (ip_101_4 hI2 (by omega) (by omega)) (F2.up rfl) ⟨rfl, rfl, rfl, rfl, rfl, rfl, rfl, rfl, rfl, rfl, rfl, h_up_n2 (by omega) rfl, h_up_n2 (by omega) rfl, h_up_n2 (by omega) rfl, rfl⟩ (fun s224 Is224 Fs224 (es224 : s224 98 15 = σ2 98 15 ∧ s224 98 16 = σ2 98 16 ∧ s224 98 17 = σ2 98 17 ∧ s224 98 18 = σ2 98 18 ∧ s224 98 13 = σ2 98 13 ∧ s224 98 14 = σ2 98 14 ∧ s224 98 5 = σ2 98 5 ∧ s224 98 6 = σ2 98 6 ∧ s224 98 7 = σ2 98 7 ∧ s224 98 8 = σ2 98 8 ∧ s224 98 9 = σ2 98 9 ∧ s224 101 18 = σ2 101 18 ∧ s224 101 25 = σ2 101 25 ∧ s224 101 43 = σ2 101 43 ∧ s224 = h_up σ2 101 (19 + (2 * c2)) c3) => ?_))
    clear hz223
    refine h_aload_n (pc' := 45) rfl rfl rfl ?_
    refine h_getR (pc' := 48) rfl rfl rfl rfl rfl ?_
    refine h_iload_n (pc' := 49) rfl rfl rfl ?_
    refine h_iconst (pc' := 50) (x := (Int32.ofInt 2)) rfl rfl rfl ?_
    refine h_iload_n (pc' := 51) rfl rfl rfl ?_
    refine h_imul (pc' := 52) rfl rfl ci_2 hy2 rfl (by omega) (by omega) (fun z225 hz225 => ?_)
    refine h_iadd (pc' := 53) rfl rfl ci_19 hz225 rfl (by omega) (by omega) (fun z226 hz226 => ?_)
    clear hz225
    refine h_iconst (pc' := 54) (x := (Int32.ofInt 1)) rfl rfl rfl ?_
    refine h_iadd (pc' := 55) rfl rfl hz226 ci_1 rfl (by omega) (by omega) (fun z227 hz227 => ?_)
    clear hz226
    refine h_aload_n (pc' := 56) rfl rfl rfl ?_
    refine d_call (g_inj ns) (pc' := 59) (m := 150) (M := [(0, .ref 98)]) (rest := [.int z227, .ref 101]) ⟨false, _, _, _, _, _, _, rfl, rfl, rfl, rfl, rfl, rfl, rfl⟩ (fun lv228 hlv228 => ?_)
    refine h_aload_n (pc' := 1) rfl rfl rfl ?_
    refine h_iconst (pc' := 2) (x := (Int32.ofInt 0)) rfl rfl rfl ?_
    refine h_iconst (pc' := 3) (x := (Int32.ofInt 5)) rfl rfl rfl ?_
    refine d_pcall (g_inj ns) (m1 := 58) (pc1' := 49) (M1 := [(0, .ref 63), (1, .int (Int32.ofInt 5))]) (rest1 := []) (m2 := 149) (pc2' := 6) (M2 := [(0, .ref 98), (1, .int (Int32.ofInt 0)), (2, .int (Int32.ofInt 5))]) (rest2 := []) ⟨false, _, _, _, _, _, _, rfl, rfl, rfl, rfl, rfl, rfl, rfl⟩ ⟨false, _, _, _, _, _, _, rfl, rfl, rfl, rfl, rfl, rfl, rfl⟩ hRw217 ?_
    refine pp_num hI1 Is224 (hTL.fr (F1.mono rfl) (Fs224.mono rfl)) (Int32.ofInt 5) _ ci_5 (Int32.ofInt 5) _ ci_5 (by omega) (by omega) (by omega) (by omega) (by omega) (by omega) (Or.inr (Or.inr (Or.inr (Or.inr ⟨by omega, by omega, by omega, by omega, by omega⟩)))) (fun rq229x bq229x hq229x rq229m bq229m hq229m sq229 tq229 Isq229 Itq229 Gsq229 Gtq229 yq229_0 yq229_1 yq229_2 yq229_3 yq229_4 pcq229 memq229 hRq229 => ?_)
    have Fsq229 := (Gsq229.mono (B := k_pl) rfl).tr F1
    have Ftq229 := (Gtq229.mono (B := k_pm) rfl).tr Fs224
    have esq229_6 : sq229 64 1 = σ1 64 1 := (Gsq229 64 1 rfl).trans rfl
    have esq229_7 : sq229 66 8 = σ1 66 8 := (Gsq229 66 8 rfl).trans rfl
    have esq229_8 : sq229 66 9 = σ1 66 9 := (Gsq229 66 9 rfl).trans rfl
    have esq229_9 : sq229 66 10 = σ1 66 10 := (Gsq229 66 10 rfl).trans rfl
    have esq229_10 : sq229 69 2 = σ1 69 2 := (Gsq229 69 2 rfl).trans rfl
    have esq229_11 : sq229 72 2 = σ1 72 2 := (Gsq229 72 2 rfl).trans rfl
    have esq229_12 : sq229 63 5 = σ1 63 5 := (Gsq229 63 5 rfl).trans rfl
    have etq229_6 : tq229 98 5 = σ2 98 5 := (Gtq229 98 5 rfl).trans es224.2.2.2.2.2.2.1
    have etq229_7 : tq229 98 6 = σ2 98 6 := (Gtq229 98 6 rfl).trans es224.2.2.2.2.2.2.2.1
    have etq229_8 : tq229 98 7 = σ2 98 7 := (Gtq229 98 7 rfl).trans es224.2.2.2.2.2.2.2.2.1
    have etq229_9 : tq229 98 8 = σ2 98 8 := (Gtq229 98 8 rfl).trans es224.2.2.2.2.2.2.2.2.2.1
    have etq229_10 : tq229 98 9 = σ2 98 9 := (Gtq229 98 9 rfl).trans es224.2.2.2.2.2.2.2.2.2.2.1
    have etq229_11 : tq229 101 18 = σ2 101 18 := (Gtq229 101 18 rfl).trans es224.2.2.2.2.2.2.2.2.2.2.2.1
    have etq229_12 : tq229 101 25 = σ2 101 25 := (Gtq229 101 25 rfl).trans es224.2.2.2.2.2.2.2.2.2.2.2.2.1
    have etq229_13 : tq229 101 43 = σ2 101 43 := (Gtq229 101 43 rfl).trans es224.2.2.2.2.2.2.2.2.2.2.2.2.2.1
    rcases pcq229 with pcq229 | pcq229
    · show h_T g_P (g_Y ns) 150 6 [(0, .ref 98)] [.int rq229m] tq229 _
      refine h_istore_n (pc' := 7) (M := [(1, .int rq229m), (0, .ref 98)]) rfl rfl rfl rfl ?_
      have oH230 : tq229 98 8 = σ2 98 8 := etq229_9
      have uH230 := tf_98_8 Itq229
      refine h_wk [(0, .ref 98), (1, .int rq229m)] ⟨rfl, rfl, trivial⟩ (lm_hi _ Itq229 rq229m _ hq229m (by omega) (fun H230 hH230 => (h_fgt (E := fun s => s 98 15 = tq229 98 15 ∧ s 98 16 = tq229 98 16 ∧ s 98 17 = tq229 98 17 ∧ s 98 18 = tq229 98 18 ∧ s 98 13 = tq229 98 13 ∧ s 98 14 = tq229 98 14 ∧ s 98 5 = σ2 98 5 ∧ s 98 6 = σ2 98 6 ∧ s 98 7 = σ2 98 7 ∧ s 98 8 = H230 ∧ s 98 9 = σ2 98 9 ∧ s 101 18 = σ2 101 18 ∧ s 101 25 = σ2 101 25 ∧ s 101 43 = σ2 101 43 ∧ s = h_up tq229 98 8 H230) _ (if_98_8 Itq229 (by omega)) (Ftq229.up rfl) ⟨rfl, rfl, rfl, rfl, rfl, rfl, etq229_6, etq229_7, etq229_8, rfl, etq229_10, etq229_11, etq229_12, etq229_13, rfl⟩ (fun s231 Is231 Fs231 (es231 : s231 98 15 = tq229 98 15 ∧ s231 98 16 = tq229 98 16 ∧ s231 98 17 = tq229 98 17 ∧ s231 98 18 = tq229 98 18 ∧ s231 98 13 = tq229 98 13 ∧ s231 98 14 = tq229 98 14 ∧ s231 98 5 = σ2 98 5 ∧ s231 98 6 = σ2 98 6 ∧ s231 98 7 = σ2 98 7 ∧ s231 98 8 = H230 ∧ s231 98 9 = σ2 98 9 ∧ s231 101 18 = σ2 101 18 ∧ s231 101 25 = σ2 101 25 ∧ s231 101 43 = σ2 101 43 ∧ s231 = h_up tq229 98 8 H230) => ?_))))
      refine h_iload_n (pc' := 28) rfl rfl rfl ?_
      refine h_iret rfl rfl (d_ret hlv228 ?_)
      refine h_iast (pc' := 60) rfl rfl rfl rfl hz227 (by omega) (by omega) hq229m (h_fgt (E := fun s => s 98 15 = tq229 98 15 ∧ s 98 16 = tq229 98 16 ∧ s 98 17 = tq229 98 17 ∧ s 98 18 = tq229 98 18 ∧ s 98 13 = tq229 98 13 ∧ s 98 14 = tq229 98 14 ∧ s 98 5 = σ2 98 5 ∧ s 98 6 = σ2 98 6 ∧ s 98 7 = σ2 98 7 ∧ s 98 8 = H230 ∧ s 98 9 = σ2 98 9 ∧ s 101 18 = σ2 101 18 ∧ s 101 25 = σ2 101 25 ∧ s 101 43 = σ2 101 43 ∧ s = h_up s231 101 ((19 + (2 * c2)) + 1) bq229m) _ (ip_101_4 Is231 (by omega) (by omega)) (Fs231.up rfl) ⟨es231.1, es231.2.1, es231.2.2.1, es231.2.2.2.1, es231.2.2.2.2.1, es231.2.2.2.2.2.1, es231.2.2.2.2.2.2.1, es231.2.2.2.2.2.2.2.1, es231.2.2.2.2.2.2.2.2.1, es231.2.2.2.2.2.2.2.2.2.1, es231.2.2.2.2.2.2.2.2.2.2.1, h_up_n2 (by omega) es231.2.2.2.2.2.2.2.2.2.2.2.1, h_up_n2 (by omega) es231.2.2.2.2.2.2.2.2.2.2.2.2.1, h_up_n2 (by omega) es231.2.2.2.2.2.2.2.2.2.2.2.2.2.1, rfl⟩ (fun s232 Is232 Fs232 (es232 : s232 98 15 = tq229 98 15 ∧ s232 98 16 = tq229 98 16 ∧ s232 98 17 = tq229 98 17 ∧ s232 98 18 = tq229 98 18 ∧ s232 98 13 = tq229 98 13 ∧ s232 98 14 = tq229 98 14 ∧ s232 98 5 = σ2 98 5 ∧ s232 98 6 = σ2 98 6 ∧ s232 98 7 = σ2 98 7 ∧ s232 98 8 = H230 ∧ s232 98 9 = σ2 98 9 ∧ s232 101 18 = σ2 101 18 ∧ s232 101 25 = σ2 101 25 ∧ s232 101 43 = σ2 101 43 ∧ s232 = h_up s231 101 ((19 + (2 * c2)) + 1) bq229m) => ?_))
      clear hq229m hz227
      refine h_aload_n (pc' := 61) rfl rfl rfl ?_
      refine h_getR (pc' := 64) rfl rfl rfl rfl rfl ?_
      refine h_iload_n (pc' := 65) rfl rfl rfl ?_
      refine h_bipush (pc' := 67) (x := (Int32.ofInt 6)) rfl rfl cb_6 ?_
      refine h_iadd (pc' := 68) (c := 25) rfl rfl ci_19 ci_6 rfl (by omega) (by omega) (fun z233 hz233 => ?_)
      refine h_dup2 (pc' := 69) rfl rfl rfl ?_
      refine h_iald (pc' := 70) (v := σ2 101 25) rfl rfl rfl hz233 (by omega) (by omega) es232.2.2.2.2.2.2.2.2.2.2.2.2.1 (fun z234 hz234 => ?_)
      have tz234 := ty_101_5 hI2 25 (by omega)
      refine h_iconst (pc' := 71) (x := (Int32.ofInt 1)) rfl rfl rfl ?_
      refine h_iadd (pc' := 72) rfl rfl hz234 ci_1 rfl (by omega) (by omega) (fun z235 hz235 => ?_)
      clear hz234
      refine h_iast (pc' := 73) rfl rfl rfl rfl hz233 (by omega) (by omega) hz235 (h_fgt (E := fun s => s 98 15 = tq229 98 15 ∧ s 98 16 = tq229 98 16 ∧ s 98 17 = tq229 98 17 ∧ s 98 18 = tq229 98 18 ∧ s 98 13 = tq229 98 13 ∧ s 98 14 = tq229 98 14 ∧ s 98 5 = σ2 98 5 ∧ s 98 6 = σ2 98 6 ∧ s 98 7 = σ2 98 7 ∧ s 98 8 = H230 ∧ s 98 9 = σ2 98 9 ∧ s 101 18 = σ2 101 18 ∧ s 101 25 = ((σ2 101 25) + 1) ∧ s 101 43 = σ2 101 43 ∧ s = h_up s232 101 25 ((σ2 101 25) + 1)) _ (ip_101_5 Is232 (by omega) (by omega)) (Fs232.up rfl) ⟨es232.1, es232.2.1, es232.2.2.1, es232.2.2.2.1, es232.2.2.2.2.1, es232.2.2.2.2.2.1, es232.2.2.2.2.2.2.1, es232.2.2.2.2.2.2.2.1, es232.2.2.2.2.2.2.2.2.1, es232.2.2.2.2.2.2.2.2.2.1, es232.2.2.2.2.2.2.2.2.2.2.1, es232.2.2.2.2.2.2.2.2.2.2.2.1, rfl, es232.2.2.2.2.2.2.2.2.2.2.2.2.2.1, rfl⟩ (fun s236 Is236 Fs236 (es236 : s236 98 15 = tq229 98 15 ∧ s236 98 16 = tq229 98 16 ∧ s236 98 17 = tq229 98 17 ∧ s236 98 18 = tq229 98 18 ∧ s236 98 13 = tq229 98 13 ∧ s236 98 14 = tq229 98 14 ∧ s236 98 5 = σ2 98 5 ∧ s236 98 6 = σ2 98 6 ∧ s236 98 7 = σ2 98 7 ∧ s236 98 8 = H230 ∧ s236 98 9 = σ2 98 9 ∧ s236 101 18 = σ2 101 18 ∧ s236 101 25 = ((σ2 101 25) + 1) ∧ s236 101 43 = σ2 101 43 ∧ s236 = h_up s232 101 25 ((σ2 101 25) + 1)) => ?_))
      clear hz233
      refine d_toL (g_inj ns) hlw217 hRq229 (fun lvw237 memw237 hlw237 hRw237 => ?_)
      show h_T g_P (g_Y ns) 60 49 [(0, .ref 63), (1, .ref 72), (2, .int x2)] [.int rq229x] sq229 _
      refine h_istore_n (pc' := 50) (M := [(3, .int rq229x), (0, .ref 63), (1, .ref 72), (2, .int x2)]) rfl rfl rfl rfl ?_
      refine h_aload_n (pc' := 51) rfl rfl rfl ?_
      refine h_getI (pc' := 54) (v := sq229 63 2) rfl rfl rfl rfl rfl rfl (fun z238 hz238 => ?_)
      have tz238 := tf_63_2 Isq229
      refine h_zne (tg := 64) (pc' := 57) rfl rfl rfl hz238 (fun c239 => ?_) (fun c239 => absurd c239 (by omega))
      clear hz238
      exact h_wk [(0, .ref 63)] ⟨rfl, trivial⟩ (kx0 _ _ Isq229 Is236 Fsq229 Fs236 (by omega) (by omega) (by omega) (by omega) (by omega) (fun h => absurd h (by omega)) (Or.inl ⟨by omega, by omega, by omega, by omega⟩) _ _ (h_al_ok ⟨rfl, trivial⟩ hlw237) hRw237)
    · exfalso; omega
set_option maxHeartbeats 100000000 in
theorem ls_feu_b {ns : Nat} {σ1 σ2 : h_S} (hI1 : h_I σ1) (hI2 : h_I σ2) (hTL : d_tape σ1 σ2) (y2 : Int32) (c2 : Int) (hy2 : y2.toInt = c2) (pr0 : σ1 64 2 = σ2 98 15) (pr1 : σ1 64 4 = σ2 98 16) (pr2 : σ1 63 2 = σ2 98 13) (pr3 : σ1 66 8 = σ2 98 5) (pr4 : σ1 66 9 = σ2 98 6) (pr5 : σ1 66 10 = σ2 101 43) (pr6 : σ1 69 2 = σ2 101 18) (pr7 : σ1 72 2 = σ2 101 25) (pr8 : σ1 63 5 = σ2 98 7) (pr9 : σ1 64 2 ≤ σ1 64 1) (pr10 : d_RD σ1 σ2) (pr11 : c2 = σ2 101 25) (pc0 : ((σ1 63 2 = 0) ∧ (σ1 64 3 = 0) ∧ (0 ≤ σ1 72 2 ∧ σ1 72 2 ≤ 2) ∧ (σ2 98 13 = 0) ∧ (σ2 98 17 = 0) ∧ (0 ≤ σ2 101 25 ∧ σ2 101 25 ≤ 2) ∧ (σ1 64 4 = σ1 64 1)) ∨ ((σ1 63 2 = 0) ∧ (σ1 64 3 = 1) ∧ (0 ≤ σ1 72 2 ∧ σ1 72 2 ≤ 2) ∧ (σ2 98 13 = 0) ∧ (σ2 98 17 = 1) ∧ (0 ≤ σ2 101 25 ∧ σ2 101 25 ≤ 2) ∧ (σ1 64 4 < σ1 64 2)) ∨ ((σ1 63 2 = 0) ∧ (σ1 64 3 = 2) ∧ (0 ≤ σ1 72 2 ∧ σ1 72 2 ≤ 2) ∧ (σ2 98 13 = 0) ∧ (σ2 98 17 = 2) ∧ (0 ≤ σ2 101 25 ∧ σ2 101 25 ≤ 2) ∧ (0 ≤ σ1 64 5 ∧ σ1 64 5 ≤ 99) ∧ (0 ≤ σ2 98 18 ∧ σ2 98 18 ≤ 99) ∧ (σ1 64 5 = σ2 98 18) ∧ (σ1 64 4 < σ1 64 2)) ∨ ((σ1 63 2 = 0) ∧ (σ1 64 3 = 3) ∧ (0 ≤ σ1 72 2 ∧ σ1 72 2 ≤ 2) ∧ (σ2 98 13 = 0) ∧ (σ2 98 17 = 3) ∧ (0 ≤ σ2 101 25 ∧ σ2 101 25 ≤ 2) ∧ (σ1 64 4 < σ1 64 2))) {cs1 cs2 : List d_Fr} {Q : d_Q} (kx0 : ∀ (s t : h_S), h_I s → h_I t → h_F (k_in k_pl) s σ1 → h_F (k_in k_pm) t σ2 → (s 64 2 = t 98 15) → (s 64 4 = t 98 16) → (s 63 2 = t 98 13) → (s 64 2 ≤ s 64 1) → (σ1 64 2 ≤ s 64 2) → (d_ok s t) → (((1 ≤ s 63 2 ∧ s 63 2 ≤ 6) ∧ (1 ≤ t 98 13 ∧ t 98 13 ≤ 6) ∧ (s 63 2 = t 98 13) ∧ (s 63 3 = t 98 14)) ∨ ((s 63 2 = 0) ∧ (s 64 3 = 0) ∧ (t 98 13 = 0) ∧ (t 98 17 = 0) ∧ (s 64 4 = s 64 1)) ∨ ((s 63 2 = 0) ∧ (s 64 3 = 1) ∧ (t 98 13 = 0) ∧ (t 98 17 = 1) ∧ (s 64 4 < s 64 2)) ∨ ((s 63 2 = 0) ∧ (s 64 3 = 2) ∧ (t 98 13 = 0) ∧ (t 98 17 = 2) ∧ (0 ≤ s 64 5 ∧ s 64 5 ≤ 99) ∧ (0 ≤ t 98 18 ∧ t 98 18 ≤ 99) ∧ (s 64 5 = t 98 18) ∧ (s 64 4 < s 64 2)) ∨ ((s 63 2 = 0) ∧ (s 64 3 = 3) ∧ (t 98 13 = 0) ∧ (t 98 17 = 3) ∧ (s 64 4 < s 64 2) ∧ ((s 64 2 = σ1 64 2 ∧ s 64 3 = σ1 64 3) ∨ σ1 64 2 < s 64 2))) → ∀ lv2 mem2, h_loc [(0, .ref 98)] lv2 → h_R (g_Y ns) t mem2 → h_T g_P (g_Y ns) 60 64 [(0, .ref 63)] [] s (d_cs g_P (g_Y ns) cs1 (d_L g_P (g_Y ns) (151, 73, lv2, []) cs2 mem2 Q))) : ∀ lv2 mem2, h_loc [(0, .ref 98), (1, .int (Int32.ofInt 19)), (2, .int y2)] lv2 → h_R (g_Y ns) σ2 mem2 → h_T g_P (g_Y ns) 60 8 [(0, .ref 63), (1, .ref 72)] [] σ1 (d_cs g_P (g_Y ns) cs1 (d_L g_P (g_Y ns) (151, 0, lv2, []) cs2 mem2 Q)) := by
  intro lv2 mem2 hl2 hR2
  have hT := hTL.1
  have hL := hTL.2
  have F1 : h_F (k_in k_pl) σ1 σ1 := h_F.rf
  have F2 : h_F (k_in k_pm) σ2 σ2 := h_F.rf
  have ge0 := tf_64_1 hI1
  have ge1 := tf_66_8 hI1
  have ge2 := tf_66_9 hI1
  have ge3 := tf_66_10 hI1
  have ge4 := tf_69_2 hI1
  have ge5 := tf_72_2 hI1
  have ge6 := tf_63_5 hI1
  have ge7 := tf_63_2 hI1
  have ge8 := tf_98_8 hI2
  have ge9 := tf_98_9 hI2
  have ge10 := tf_98_13 hI2
  show h_T g_P (g_Y ns) 60 8 [(0, .ref 63), (1, .ref 72)] [] σ1 _
  refine h_aload_n (pc' := 9) rfl rfl rfl ?_
  refine h_iconst (pc' := 10) (x := (Int32.ofInt 5)) rfl rfl rfl ?_
  refine d_toM (g_inj ns) hl2 hR2 (fun lvw21 memw21 hlw21 hRw21 => ?_)
  show h_T g_P (g_Y ns) 151 0 [(0, .ref 98), (1, .int (Int32.ofInt 19)), (2, .int y2)] [] σ2 _
  refine h_aload_n (pc' := 1) rfl rfl rfl ?_
  refine d_call (g_inj ns) (pc' := 4) (m := 150) (M := [(0, .ref 98)]) (rest := []) ⟨false, _, _, _, _, _, _, rfl, rfl, rfl, rfl, rfl, rfl, rfl⟩ (fun lv22 hlv22 => ?_)
  refine h_aload_n (pc' := 1) rfl rfl rfl ?_
  refine h_iconst (pc' := 2) (x := (Int32.ofInt 0)) rfl rfl rfl ?_
  refine h_iconst (pc' := 3) (x := (Int32.ofInt 5)) rfl rfl rfl ?_
  refine d_pcall (g_inj ns) (m1 := 58) (pc1' := 13) (M1 := [(0, .ref 63), (1, .int (Int32.ofInt 5))]) (rest1 := []) (m2 := 149) (pc2' := 6) (M2 := [(0, .ref 98), (1, .int (Int32.ofInt 0)), (2, .int (Int32.ofInt 5))]) (rest2 := []) ⟨false, _, _, _, _, _, _, rfl, rfl, rfl, rfl, rfl, rfl, rfl⟩ ⟨false, _, _, _, _, _, _, rfl, rfl, rfl, rfl, rfl, rfl, rfl⟩ hRw21 ?_
  refine pp_num hI1 hI2 (hTL.fr (F1.mono rfl) (F2.mono rfl)) (Int32.ofInt 5) _ ci_5 (Int32.ofInt 5) _ ci_5 (by omega) (by omega) (by omega) (by omega) (by omega) (by omega) (pc0.elim (fun pc0 => (Or.inr (Or.inl ⟨by omega, by omega, by omega, by omega, by omega⟩))) (fun pc0 => (pc0.elim (fun pc0 => (Or.inr (Or.inr (Or.inl ⟨by omega, by omega, by omega, by omega, by omega⟩)))) (fun pc0 => (pc0.elim (fun pc0 => (Or.inr (Or.inr (Or.inr (Or.inl ⟨by omega, by omega, by omega, by omega, by omega, by omega, by omega, by omega⟩))))) (fun pc0 => (Or.inr (Or.inr (Or.inr (Or.inr ⟨by omega, by omega, by omega, by omega, by omega⟩)))))))))) (fun rq23x bq23x hq23x rq23m bq23m hq23m sq23 tq23 Isq23 Itq23 Gsq23 Gtq23 yq23_0 yq23_1 yq23_2 yq23_3 yq23_4 pcq23 memq23 hRq23 => ?_)
  have Fsq23 := (Gsq23.mono (B := k_pl) rfl).tr F1
  have Ftq23 := (Gtq23.mono (B := k_pm) rfl).tr F2
  have esq23_6 : sq23 64 1 = σ1 64 1 := (Gsq23 64 1 rfl).trans rfl
  have esq23_7 : sq23 66 8 = σ1 66 8 := (Gsq23 66 8 rfl).trans rfl
  have esq23_8 : sq23 66 9 = σ1 66 9 := (Gsq23 66 9 rfl).trans rfl
  have esq23_9 : sq23 66 10 = σ1 66 10 := (Gsq23 66 10 rfl).trans rfl
  have esq23_10 : sq23 69 2 = σ1 69 2 := (Gsq23 69 2 rfl).trans rfl
  have esq23_11 : sq23 72 2 = σ1 72 2 := (Gsq23 72 2 rfl).trans rfl
  have esq23_12 : sq23 63 5 = σ1 63 5 := (Gsq23 63 5 rfl).trans rfl
  have etq23_6 : tq23 98 5 = σ2 98 5 := (Gtq23 98 5 rfl).trans rfl
  have etq23_7 : tq23 98 6 = σ2 98 6 := (Gtq23 98 6 rfl).trans rfl
  have etq23_8 : tq23 98 7 = σ2 98 7 := (Gtq23 98 7 rfl).trans rfl
  have etq23_9 : tq23 98 8 = σ2 98 8 := (Gtq23 98 8 rfl).trans rfl
  have etq23_10 : tq23 98 9 = σ2 98 9 := (Gtq23 98 9 rfl).trans rfl
  have etq23_11 : tq23 101 18 = σ2 101 18 := (Gtq23 101 18 rfl).trans rfl
  have etq23_12 : tq23 101 25 = σ2 101 25 := (Gtq23 101 25 rfl).trans rfl
  have etq23_13 : tq23 101 43 = σ2 101 43 := (Gtq23 101 43 rfl).trans rfl
  rcases pcq23 with pcq23 | pcq23
  · show h_T g_P (g_Y ns) 150 6 [(0, .ref 98)] [.int rq23m] tq23 _
    refine h_istore_n (pc' := 7) (M := [(1, .int rq23m), (0, .ref 98)]) rfl rfl rfl rfl ?_
    have oH24 : tq23 98 8 = σ2 98 8 := etq23_9
    have uH24 := tf_98_8 Itq23
    refine h_wk [(0, .ref 98), (1, .int rq23m)] ⟨rfl, rfl, trivial⟩ (lm_hi _ Itq23 rq23m _ hq23m (by omega) (fun H24 hH24 => (h_fgt (E := fun s => s 98 15 = tq23 98 15 ∧ s 98 16 = tq23 98 16 ∧ s 98 17 = tq23 98 17 ∧ s 98 18 = tq23 98 18 ∧ s 98 13 = tq23 98 13 ∧ s 98 14 = tq23 98 14 ∧ s 98 5 = σ2 98 5 ∧ s 98 6 = σ2 98 6 ∧ s 98 7 = σ2 98 7 ∧ s 98 8 = H24 ∧ s 98 9 = σ2 98 9 ∧ s 101 18 = σ2 101 18 ∧ s 101 25 = σ2 101 25 ∧ s 101 43 = σ2 101 43 ∧ s = h_up tq23 98 8 H24) _ (if_98_8 Itq23 (by omega)) (Ftq23.up rfl) ⟨rfl, rfl, rfl, rfl, rfl, rfl, etq23_6, etq23_7, etq23_8, rfl, etq23_10, etq23_11, etq23_12, etq23_13, rfl⟩ (fun s25 Is25 Fs25 (es25 : s25 98 15 = tq23 98 15 ∧ s25 98 16 = tq23 98 16 ∧ s25 98 17 = tq23 98 17 ∧ s25 98 18 = tq23 98 18 ∧ s25 98 13 = tq23 98 13 ∧ s25 98 14 = tq23 98 14 ∧ s25 98 5 = σ2 98 5 ∧ s25 98 6 = σ2 98 6 ∧ s25 98 7 = σ2 98 7 ∧ s25 98 8 = H24 ∧ s25 98 9 = σ2 98 9 ∧ s25 101 18 = σ2 101 18 ∧ s25 101 25 = σ2 101 25 ∧ s25 101 43 = σ2 101 43 ∧ s25 = h_up tq23 98 8 H24) => ?_))))
    refine h_iload_n (pc' := 28) rfl rfl rfl ?_
    refine h_iret rfl rfl (d_ret hlv22 ?_)
    refine h_istore_n (pc' := 5) (M := [(3, .int rq23m), (0, .ref 98), (1, .int (Int32.ofInt 19)), (2, .int y2)]) rfl rfl rfl rfl ?_
    refine h_aload_n (pc' := 6) rfl rfl rfl ?_
    refine h_getI (pc' := 9) (v := tq23 98 13) rfl rfl rfl rfl rfl es25.2.2.2.2.1 (fun z26 hz26 => ?_)
    have tz26 := tf_98_13 Itq23
    refine h_zne (tg := 33) (pc' := 12) rfl rfl rfl hz26 (fun c27 => ?_) (fun c27 => absurd c27 (by omega))
    clear hz26
    refine h_aload_n (pc' := 34) rfl rfl rfl ?_
    refine h_getR (pc' := 37) rfl rfl rfl rfl rfl ?_
    refine h_iload_n (pc' := 38) rfl rfl rfl ?_
    refine h_iconst (pc' := 39) (x := (Int32.ofInt 2)) rfl rfl rfl ?_
    refine h_iload_n (pc' := 40) rfl rfl rfl ?_
    refine h_imul (pc' := 41) rfl rfl ci_2 hy2 rfl (by omega) (by omega) (fun z28 hz28 => ?_)
    refine h_iadd (pc' := 42) rfl rfl ci_19 hz28 rfl (by omega) (by omega) (fun z29 hz29 => ?_)
    clear hz28
    refine h_iload_n (pc' := 43) rfl rfl rfl ?_
    refine h_iast (pc' := 44) rfl rfl rfl rfl hz29 (by omega) (by omega) hq23m (h_fgt (E := fun s => s 98 15 = tq23 98 15 ∧ s 98 16 = tq23 98 16 ∧ s 98 17 = tq23 98 17 ∧ s 98 18 = tq23 98 18 ∧ s 98 13 = tq23 98 13 ∧ s 98 14 = tq23 98 14 ∧ s 98 5 = σ2 98 5 ∧ s 98 6 = σ2 98 6 ∧ s 98 7 = σ2 98 7 ∧ s 98 8 = H24 ∧ s 98 9 = σ2 98 9 ∧ s 101 18 = σ2 101 18 ∧ s 101 25 = σ2 101 25 ∧ s 101 43 = σ2 101 43 ∧ s = h_up s25 101 (19 + (2 * c2)) bq23m) _ (ip_101_4 Is25 (by omega) (by omega)) (Fs25.up rfl) ⟨es25.1, es25.2.1, es25.2.2.1, es25.2.2.2.1, es25.2.2.2.2.1, es25.2.2.2.2.2.1, es25.2.2.2.2.2.2.1, es25.2.2.2.2.2.2.2.1, es25.2.2.2.2.2.2.2.2.1, es25.2.2.2.2.2.2.2.2.2.1, es25.2.2.2.2.2.2.2.2.2.2.1, h_up_n2 (by omega) es25.2.2.2.2.2.2.2.2.2.2.2.1, h_up_n2 (by omega) es25.2.2.2.2.2.2.2.2.2.2.2.2.1, h_up_n2 (by omega) es25.2.2.2.2.2.2.2.2.2.2.2.2.2.1, rfl⟩ (fun s30 Is30 Fs30 (es30 : s30 98 15 = tq23 98 15 ∧ s30 98 16 = tq23 98 16 ∧ s30 98 17 = tq23 98 17 ∧ s30 98 18 = tq23 98 18 ∧ s30 98 13 = tq23 98 13 ∧ s30 98 14 = tq23 98 14 ∧ s30 98 5 = σ2 98 5 ∧ s30 98 6 = σ2 98 6 ∧ s30 98 7 = σ2 98 7 ∧ s30 98 8 = H24 ∧ s30 98 9 = σ2 98 9 ∧ s30 101 18 = σ2 101 18 ∧ s30 101 25 = σ2 101 25 ∧ s30 101 43 = σ2 101 43 ∧ s30 = h_up s25 101 (19 + (2 * c2)) bq23m) => ?_))
    clear hz29
    refine h_aload_n (pc' := 45) rfl rfl rfl ?_
    refine h_getR (pc' := 48) rfl rfl rfl rfl rfl ?_
    refine h_iload_n (pc' := 49) rfl rfl rfl ?_
    refine h_iconst (pc' := 50) (x := (Int32.ofInt 2)) rfl rfl rfl ?_
    refine h_iload_n (pc' := 51) rfl rfl rfl ?_
    refine h_imul (pc' := 52) rfl rfl ci_2 hy2 rfl (by omega) (by omega) (fun z31 hz31 => ?_)
    refine h_iadd (pc' := 53) rfl rfl ci_19 hz31 rfl (by omega) (by omega) (fun z32 hz32 => ?_)
    clear hz31
    refine h_iconst (pc' := 54) (x := (Int32.ofInt 1)) rfl rfl rfl ?_
    refine h_iadd (pc' := 55) rfl rfl hz32 ci_1 rfl (by omega) (by omega) (fun z33 hz33 => ?_)
    clear hz32
    refine h_aload_n (pc' := 56) rfl rfl rfl ?_
    refine d_call (g_inj ns) (pc' := 59) (m := 150) (M := [(0, .ref 98)]) (rest := [.int z33, .ref 101]) ⟨false, _, _, _, _, _, _, rfl, rfl, rfl, rfl, rfl, rfl, rfl⟩ (fun lv34 hlv34 => ?_)
    refine h_aload_n (pc' := 1) rfl rfl rfl ?_
    refine h_iconst (pc' := 2) (x := (Int32.ofInt 0)) rfl rfl rfl ?_
    refine h_iconst (pc' := 3) (x := (Int32.ofInt 5)) rfl rfl rfl ?_
    refine h_call (sp := false) (pc' := 6) (M := [(0, .ref 98), (1, .int (Int32.ofInt 0)), (2, .int (Int32.ofInt 5))]) rfl rfl rfl rfl rfl rfl rfl rfl ?_
    refine h_aload_n (pc' := 1) rfl rfl rfl ?_
    refine h_getI (pc' := 4) (v := tq23 98 13) rfl rfl rfl rfl rfl es30.2.2.2.2.1 (fun z35 hz35 => ?_)
    refine h_zne (tg := 20) (pc' := 7) rfl rfl rfl hz35 (fun c36 => ?_) (fun c36 => absurd c36 (by omega))
    clear hz35
    refine h_aload_n (pc' := 21) rfl rfl rfl ?_
    refine h_getI (pc' := 24) (v := tq23 98 13) rfl rfl rfl rfl rfl es30.2.2.2.2.1 (fun z37 hz37 => ?_)
    refine h_zne (tg := 47) (pc' := 27) rfl rfl rfl hz37 (fun c38 => ?_) (fun c38 => absurd c38 (by omega))
    clear hz37
    refine h_aload_n (pc' := 48) rfl rfl rfl ?_
    refine h_getI (pc' := 51) (v := tq23 98 13) rfl rfl rfl rfl rfl es30.2.2.2.2.1 (fun z39 hz39 => ?_)
    refine h_zne (tg := 61) (pc' := 54) rfl rfl rfl hz39 (fun c40 => ?_) (fun c40 => absurd c40 (by omega))
    clear hz39
    refine h_iload_n (pc' := 62) rfl rfl rfl ?_
    refine h_istore_n (pc' := 63) (M := [(3, .int (Int32.ofInt 0)), (0, .ref 98), (1, .int (Int32.ofInt 0)), (2, .int (Int32.ofInt 5))]) rfl rfl rfl rfl ?_
    refine h_aload_n (pc' := 64) rfl rfl rfl ?_
    refine h_call (sp := false) (pc' := 67) (M := [(0, .ref 98)]) rfl rfl rfl rfl rfl rfl rfl rfl ?_
    refine h_aload_n (pc' := 1) rfl rfl rfl ?_
    refine h_getI (pc' := 4) (v := tq23 98 13) rfl rfl rfl rfl rfl es30.2.2.2.2.1 (fun z41 hz41 => ?_)
    refine h_zle (tg := 8) (pc' := 7) rfl rfl rfl hz41 (fun c42 => absurd c42 (by omega)) (fun c42 => ?_)
    clear hz41
    refine h_vret rfl rfl (h_Kn ?_)
    refine h_iload_n (pc' := 68) rfl rfl rfl ?_
    refine h_iret rfl rfl (h_Kv ?_)
    refine h_istore_n (pc' := 7) (M := [(1, .int (Int32.ofInt 0)), (0, .ref 98)]) rfl rfl rfl rfl ?_
    have oH43 : s30 98 8 = H24 := es30.2.2.2.2.2.2.2.2.2.1
    have uH43 := tf_98_8 Is30
    refine h_wk [(0, .ref 98), (1, .int (Int32.ofInt 0))] ⟨rfl, rfl, trivial⟩ (lm_hi _ Is30 (Int32.ofInt 0) _ ci_0 (by omega) (fun H43 hH43 => (h_fgt (E := fun s => s 98 15 = tq23 98 15 ∧ s 98 16 = tq23 98 16 ∧ s 98 17 = tq23 98 17 ∧ s 98 18 = tq23 98 18 ∧ s 98 13 = tq23 98 13 ∧ s 98 14 = tq23 98 14 ∧ s 98 5 = σ2 98 5 ∧ s 98 6 = σ2 98 6 ∧ s 98 7 = σ2 98 7 ∧ s 98 8 = H43 ∧ s 98 9 = σ2 98 9 ∧ s 101 18 = σ2 101 18 ∧ s 101 25 = σ2 101 25 ∧ s 101 43 = σ2 101 43 ∧ s = h_up s30 98 8 H43) _ (if_98_8 Is30 (by omega)) (Fs30.up rfl) ⟨es30.1, es30.2.1, es30.2.2.1, es30.2.2.2.1, es30.2.2.2.2.1, es30.2.2.2.2.2.1, es30.2.2.2.2.2.2.1, es30.2.2.2.2.2.2.2.1, es30.2.2.2.2.2.2.2.2.1, rfl, es30.2.2.2.2.2.2.2.2.2.2.1, es30.2.2.2.2.2.2.2.2.2.2.2.1, es30.2.2.2.2.2.2.2.2.2.2.2.2.1, es30.2.2.2.2.2.2.2.2.2.2.2.2.2.1, rfl⟩ (fun s44 Is44 Fs44 (es44 : s44 98 15 = tq23 98 15 ∧ s44 98 16 = tq23 98 16 ∧ s44 98 17 = tq23 98 17 ∧ s44 98 18 = tq23 98 18 ∧ s44 98 13 = tq23 98 13 ∧ s44 98 14 = tq23 98 14 ∧ s44 98 5 = σ2 98 5 ∧ s44 98 6 = σ2 98 6 ∧ s44 98 7 = σ2 98 7 ∧ s44 98 8 = H43 ∧ s44 98 9 = σ2 98 9 ∧ s44 101 18 = σ2 101 18 ∧ s44 101 25 = σ2 101 25 ∧ s44 101 43 = σ2 101 43 ∧ s44 = h_up s30 98 8 H43) => ?_))))
    refine h_iload_n (pc' := 28) rfl rfl rfl ?_
    refine h_iret rfl rfl (d_ret hlv34 ?_)
    refine h_iast (pc' := 60) rfl rfl rfl rfl hz33 (by omega) (by omega) ci_0 (h_fgt (E := fun s => s 98 15 = tq23 98 15 ∧ s 98 16 = tq23 98 16 ∧ s 98 17 = tq23 98 17 ∧ s 98 18 = tq23 98 18 ∧ s 98 13 = tq23 98 13 ∧ s 98 14 = tq23 98 14 ∧ s 98 5 = σ2 98 5 ∧ s 98 6 = σ2 98 6 ∧ s 98 7 = σ2 98 7 ∧ s 98 8 = H43 ∧ s 98 9 = σ2 98 9 ∧ s 101 18 = σ2 101 18 ∧ s 101 25 = σ2 101 25 ∧ s 101 43 = σ2 101 43 ∧ s = h_up s44 101 ((19 + (2 * c2)) + 1) 0) _ (ip_101_4 Is44 (by omega) (by omega)) (Fs44.up rfl) ⟨es44.1, es44.2.1, es44.2.2.1, es44.2.2.2.1, es44.2.2.2.2.1, es44.2.2.2.2.2.1, es44.2.2.2.2.2.2.1, es44.2.2.2.2.2.2.2.1, es44.2.2.2.2.2.2.2.2.1, es44.2.2.2.2.2.2.2.2.2.1, es44.2.2.2.2.2.2.2.2.2.2.1, h_up_n2 (by omega) es44.2.2.2.2.2.2.2.2.2.2.2.1, h_up_n2 (by omega) es44.2.2.2.2.2.2.2.2.2.2.2.2.1, h_up_n2 (by omega) es44.2.2.2.2.2.2.2.2.2.2.2.2.2.1, rfl⟩ (fun s45 Is45 Fs45 (es45 : s45 98 15 = tq23 98 15 ∧ s45 98 16 = tq23 98 16 ∧ s45 98 17 = tq23 98 17 ∧ s45 98 18 = tq23 98 18 ∧ s45 98 13 = tq23 98 13 ∧ s45 98 14 = tq23 98 14 ∧ s45 98 5 = σ2 98 5 ∧ s45 98 6 = σ2 98 6 ∧ s45 98 7 = σ2 98 7 ∧ s45 98 8 = H43 ∧ s45 98 9 = σ2 98 9 ∧ s45 101 18 = σ2 101 18 ∧ s45 101 25 = σ2 101 25 ∧ s45 101 43 = σ2 101 43 ∧ s45 = h_up s44 101 ((19 + (2 * c2)) + 1) 0) => ?_))
    clear hz33
    refine h_aload_n (pc' := 61) rfl rfl rfl ?_
    refine h_getR (pc' := 64) rfl rfl rfl rfl rfl ?_
    refine h_iload_n (pc' := 65) rfl rfl rfl ?_
    refine h_bipush (pc' := 67) (x := (Int32.ofInt 6)) rfl rfl cb_6 ?_
    refine h_iadd (pc' := 68) (c := 25) rfl rfl ci_19 ci_6 rfl (by omega) (by omega) (fun z46 hz46 => ?_)
    refine h_dup2 (pc' := 69) rfl rfl rfl ?_
    refine h_iald (pc' := 70) (v := σ2 101 25) rfl rfl rfl hz46 (by omega) (by omega) es45.2.2.2.2.2.2.2.2.2.2.2.2.1 (fun z47 hz47 => ?_)
    have tz47 := ty_101_5 hI2 25 (by omega)
    refine h_iconst (pc' := 71) (x := (Int32.ofInt 1)) rfl rfl rfl ?_
    refine h_iadd (pc' := 72) rfl rfl hz47 ci_1 rfl (by omega) (by omega) (fun z48 hz48 => ?_)
    clear hz47
    refine h_iast (pc' := 73) rfl rfl rfl rfl hz46 (by omega) (by omega) hz48 (h_fgt (E := fun s => s 98 15 = tq23 98 15 ∧ s 98 16 = tq23 98 16 ∧ s 98 17 = tq23 98 17 ∧ s 98 18 = tq23 98 18 ∧ s 98 13 = tq23 98 13 ∧ s 98 14 = tq23 98 14 ∧ s 98 5 = σ2 98 5 ∧ s 98 6 = σ2 98 6 ∧ s 98 7 = σ2 98 7 ∧ s 98 8 = H43 ∧ s 98 9 = σ2 98 9 ∧ s 101 18 = σ2 101 18 ∧ s 101 25 = ((σ2 101 25) + 1) ∧ s 101 43 = σ2 101 43 ∧ s = h_up s45 101 25 ((σ2 101 25) + 1)) _ (ip_101_5 Is45 (by omega) (by omega)) (Fs45.up rfl) ⟨es45.1, es45.2.1, es45.2.2.1, es45.2.2.2.1, es45.2.2.2.2.1, es45.2.2.2.2.2.1, es45.2.2.2.2.2.2.1, es45.2.2.2.2.2.2.2.1, es45.2.2.2.2.2.2.2.2.1, es45.2.2.2.2.2.2.2.2.2.1, es45.2.2.2.2.2.2.2.2.2.2.1, es45.2.2.2.2.2.2.2.2.2.2.2.1, rfl, es45.2.2.2.2.2.2.2.2.2.2.2.2.2.1, rfl⟩ (fun s49 Is49 Fs49 (es49 : s49 98 15 = tq23 98 15 ∧ s49 98 16 = tq23 98 16 ∧ s49 98 17 = tq23 98 17 ∧ s49 98 18 = tq23 98 18 ∧ s49 98 13 = tq23 98 13 ∧ s49 98 14 = tq23 98 14 ∧ s49 98 5 = σ2 98 5 ∧ s49 98 6 = σ2 98 6 ∧ s49 98 7 = σ2 98 7 ∧ s49 98 8 = H43 ∧ s49 98 9 = σ2 98 9 ∧ s49 101 18 = σ2 101 18 ∧ s49 101 25 = ((σ2 101 25) + 1) ∧ s49 101 43 = σ2 101 43 ∧ s49 = h_up s45 101 25 ((σ2 101 25) + 1)) => ?_))
    clear hz46
    refine d_toL (g_inj ns) hlw21 hRq23 (fun lvw50 memw50 hlw50 hRw50 => ?_)
    show h_T g_P (g_Y ns) 60 13 [(0, .ref 63), (1, .ref 72)] [.int rq23x] sq23 _
    refine h_istore_n (pc' := 14) (M := [(2, .int rq23x), (0, .ref 63), (1, .ref 72)]) rfl rfl rfl rfl ?_
    refine h_aload_n (pc' := 15) rfl rfl rfl ?_
    refine h_call (sp := false) (pc' := 18) (M := [(0, .ref 63)]) rfl rfl rfl rfl rfl rfl rfl rfl ?_
    refine h_aload_n (pc' := 1) rfl rfl rfl ?_
    refine h_getI (pc' := 4) (v := sq23 63 2) rfl rfl rfl rfl rfl rfl (fun z51 hz51 => ?_)
    have tz51 := tf_63_2 Isq23
    refine h_zne (tg := 22) (pc' := 7) rfl rfl rfl hz51 (fun c52 => ?_) (fun c52 => absurd c52 (by omega))
    clear hz51
    refine h_iconst (pc' := 23) (x := (Int32.ofInt 0)) rfl rfl rfl ?_
    refine h_zret rfl rfl ci_0 (by omega) (h_Kv ?_)
    refine h_zeq (tg := 44) (pc' := 21) rfl rfl rfl ci_0 (fun c53 => ?_) (fun c53 => absurd c53 (by omega))
    refine h_aload_n (pc' := 45) rfl rfl rfl ?_
    refine h_iconst (pc' := 46) (x := (Int32.ofInt 5)) rfl rfl rfl ?_
    refine h_call (sp := false) (pc' := 49) (M := [(0, .ref 63), (1, .int (Int32.ofInt 5))]) rfl rfl rfl rfl rfl rfl rfl rfl ?_
    refine h_aload_n (pc' := 1) rfl rfl rfl ?_
    refine h_getI (pc' := 4) (v := sq23 63 2) rfl rfl rfl rfl rfl rfl (fun z54 hz54 => ?_)
    refine h_zne (tg := 30) (pc' := 7) rfl rfl rfl hz54 (fun c55 => ?_) (fun c55 => absurd c55 (by omega))
    clear hz54
    refine h_aload_n (pc' := 31) rfl rfl rfl ?_
    refine h_getI (pc' := 34) (v := sq23 63 2) rfl rfl rfl rfl rfl rfl (fun z56 hz56 => ?_)
    refine h_zne (tg := 60) (pc' := 37) rfl rfl rfl hz56 (fun c57 => ?_) (fun c57 => absurd c57 (by omega))
    clear hz56
    refine h_aload_n (pc' := 61) rfl rfl rfl ?_
    refine h_getR (pc' := 64) rfl rfl rfl rfl rfl ?_
    refine h_getI (pc' := 67) (v := sq23 64 5) rfl rfl rfl rfl rfl rfl (fun z58 hz58 => ?_)
    have tz58 := tf_64_5 Isq23
    refine h_istore_n (pc' := 68) (M := [(2, .int z58), (0, .ref 63), (1, .int (Int32.ofInt 5))]) rfl rfl rfl rfl ?_
    refine h_aload_n (pc' := 69) rfl rfl rfl ?_
    refine h_call (sp := false) (pc' := 72) (M := [(0, .ref 63)]) rfl rfl rfl rfl rfl rfl rfl rfl ?_
    refine h_aload_n (pc' := 1) rfl rfl rfl ?_
    refine h_getI (pc' := 4) (v := sq23 63 2) rfl rfl rfl rfl rfl rfl (fun z59 hz59 => ?_)
    refine h_zne (tg := 37) (pc' := 7) rfl rfl rfl hz59 (fun c60 => ?_) (fun c60 => absurd c60 (by omega))
    clear hz59
    refine h_vret rfl rfl (h_Kn ?_)
    refine h_iload_n (pc' := 73) rfl rfl rfl ?_
    refine h_iret rfl rfl (h_Kv ?_)
    refine h_istore_n (pc' := 50) (M := [(3, .int z58), (2, .int rq23x), (0, .ref 63), (1, .ref 72)]) rfl rfl rfl rfl ?_
    refine h_aload_n (pc' := 51) rfl rfl rfl ?_
    refine h_getI (pc' := 54) (v := sq23 63 2) rfl rfl rfl rfl rfl rfl (fun z61 hz61 => ?_)
    refine h_zne (tg := 64) (pc' := 57) rfl rfl rfl hz61 (fun c62 => ?_) (fun c62 => absurd c62 (by omega))
    clear hz61
    exact h_wk [(0, .ref 63)] ⟨rfl, trivial⟩ (kx0 _ _ Isq23 Is49 Fsq23 Fs49 (by omega) (by omega) (by omega) (by omega) (by omega) (fun h => absurd h (by omega)) (Or.inl ⟨by omega, by omega, by omega, by omega⟩) _ _ (h_al_ok ⟨rfl, trivial⟩ hlw50) hRw50)
  · show h_T g_P (g_Y ns) 150 6 [(0, .ref 98)] [.int rq23m] tq23 _
    refine h_istore_n (pc' := 7) (M := [(1, .int rq23m), (0, .ref 98)]) rfl rfl rfl rfl ?_
    have oH63 : tq23 98 8 = σ2 98 8 := etq23_9
    have uH63 := tf_98_8 Itq23
    refine h_wk [(0, .ref 98), (1, .int rq23m)] ⟨rfl, rfl, trivial⟩ (lm_hi _ Itq23 rq23m _ hq23m (by omega) (fun H63 hH63 => (h_fgt (E := fun s => s 98 15 = tq23 98 15 ∧ s 98 16 = tq23 98 16 ∧ s 98 17 = tq23 98 17 ∧ s 98 18 = tq23 98 18 ∧ s 98 13 = tq23 98 13 ∧ s 98 14 = tq23 98 14 ∧ s 98 5 = σ2 98 5 ∧ s 98 6 = σ2 98 6 ∧ s 98 7 = σ2 98 7 ∧ s 98 8 = H63 ∧ s 98 9 = σ2 98 9 ∧ s 101 18 = σ2 101 18 ∧ s 101 25 = σ2 101 25 ∧ s 101 43 = σ2 101 43 ∧ s = h_up tq23 98 8 H63) _ (if_98_8 Itq23 (by omega)) (Ftq23.up rfl) ⟨rfl, rfl, rfl, rfl, rfl, rfl, etq23_6, etq23_7, etq23_8, rfl, etq23_10, etq23_11, etq23_12, etq23_13, rfl⟩ (fun s64 Is64 Fs64 (es64 : s64 98 15 = tq23 98 15 ∧ s64 98 16 = tq23 98 16 ∧ s64 98 17 = tq23 98 17 ∧ s64 98 18 = tq23 98 18 ∧ s64 98 13 = tq23 98 13 ∧ s64 98 14 = tq23 98 14 ∧ s64 98 5 = σ2 98 5 ∧ s64 98 6 = σ2 98 6 ∧ s64 98 7 = σ2 98 7 ∧ s64 98 8 = H63 ∧ s64 98 9 = σ2 98 9 ∧ s64 101 18 = σ2 101 18 ∧ s64 101 25 = σ2 101 25 ∧ s64 101 43 = σ2 101 43 ∧ s64 = h_up tq23 98 8 H63) => ?_))))
    refine h_iload_n (pc' := 28) rfl rfl rfl ?_
    refine h_iret rfl rfl (d_ret hlv22 ?_)
    refine h_istore_n (pc' := 5) (M := [(3, .int rq23m), (0, .ref 98), (1, .int (Int32.ofInt 19)), (2, .int y2)]) rfl rfl rfl rfl ?_
    refine d_toL (g_inj ns) hlw21 hRq23 (fun lvw65 memw65 hlw65 hRw65 => ?_)
    show h_T g_P (g_Y ns) 60 13 [(0, .ref 63), (1, .ref 72)] [.int rq23x] sq23 _
    refine h_istore_n (pc' := 14) (M := [(2, .int rq23x), (0, .ref 63), (1, .ref 72)]) rfl rfl rfl rfl ?_
    refine h_wk [(0, .ref 63), (1, .ref 72), (2, .int rq23x)] ⟨rfl, rfl, rfl, trivial⟩ (ls_feu_c Isq23 Is64 (hTL.fr (Fsq23.mono rfl) (Fs64.mono rfl)) rq23x _ hq23x y2 _ hy2 rq23m _ hq23m (σ2 98 8) (by omega) (by omega) (by omega) (by omega) (by omega) (by omega) (by omega) (by omega) (by omega) (by omega) (d_mkH ((Gsq23 66 8 rfl)) ((Gsq23 66 9 rfl)) ((Gsq23 66 10 rfl)) ((Gsq23 69 2 rfl)) ((Gsq23 72 2 rfl)) ((Gsq23 63 5 rfl)) (fun j => (Gsq23 67 j rfl)) (fun j => (Gsq23 68 j rfl)) (fun j => (Gsq23 70 j rfl)) (fun j => (Gsq23 71 j rfl)) (fun j => (Gsq23 73 j rfl)) (fun j => (Gsq23 74 j rfl)) (fun j => (Gsq23 75 j rfl)) (fun j => (Gsq23 76 j rfl)) (fun j => (Gsq23 77 j rfl)) (fun j => (Gsq23 78 j rfl)) ((h_upd es64.2.2.2.2.2.2.2.2.2.2.2.2.2.2 (by decide)).trans (Gtq23 98 5 rfl)) ((h_upd es64.2.2.2.2.2.2.2.2.2.2.2.2.2.2 (by decide)).trans (Gtq23 98 6 rfl)) ((h_upd es64.2.2.2.2.2.2.2.2.2.2.2.2.2.2 (by decide)).trans (Gtq23 98 7 rfl)) ((h_upd es64.2.2.2.2.2.2.2.2.2.2.2.2.2.2 (by decide)).trans (Gtq23 98 9 rfl)) (fun j => (h_upo es64.2.2.2.2.2.2.2.2.2.2.2.2.2.2 rfl j).trans (Gtq23 101 j rfl)) (pr10)) (by omega) (by omega) (by omega) (by omega) (by omega) (by omega) (pcq23.elim (fun pcq23 => (Or.inl ⟨by omega, by omega, by omega, by omega, by omega, by omega, by omega⟩)) (fun pcq23 => (pcq23.elim (fun pcq23 => (Or.inr (Or.inl ⟨by omega, by omega, by omega, by omega, by omega, by omega, by omega⟩))) (fun pcq23 => (pcq23.elim (fun pcq23 => (Or.inr (Or.inr (Or.inl ⟨by omega, by omega, by omega, by omega, by omega, by omega, by omega, by omega, by omega, by omega⟩)))) (fun pcq23 => (Or.inr (Or.inr (Or.inr ⟨by omega, by omega, by omega, by omega, by omega, by omega, by omega⟩))))))))) (fun sq66 tq66 Isq66 Itq66 Gsq66 Gtq66   yq66_0 yq66_1 yq66_2 yq66_3 yq66_4 yq66_5 pcq66 lvq66 memq66 hlq66 hRq66 => ?_) _ _ (h_al_ok ⟨rfl, rfl, rfl, rfl, trivial⟩ hlw65) hRw65)
    · have Fsq66 := (Gsq66.mono (B := k_pl) rfl).tr Fsq23
      have Ftq66 := (Gtq66.mono (B := k_pm) rfl).tr Fs64
      have Isq66 := Isq66
      have Itq66 := Itq66
      have Gsq66 := Gsq66
      have Gtq66 := Gtq66
      have esq66_6 : sq66 64 1 = σ1 64 1 := (Gsq66 64 1 rfl).trans esq23_6
      show h_T g_P (g_Y ns) 60 64 [(0, .ref 63)] [] sq66 _
      clear hq23m hq23x
      refine d_toM (g_inj ns) hlq66 hRq66 (fun lvw67 memw67 hlw67 hRw67 => ?_)
      show h_T g_P (g_Y ns) 151 73 [(0, .ref 98)] [] tq66 _
      refine d_toL (g_inj ns) hlw67 hRw67 (fun lvw68 memw68 hlw68 hRw68 => ?_)
      show h_T g_P (g_Y ns) 60 64 [(0, .ref 63)] [] sq66 _
      exact h_wk [(0, .ref 63)] ⟨rfl, trivial⟩ (kx0 _ _ Isq66 Itq66 Fsq66 Ftq66 (by omega) (by omega) (by omega) (by omega) (by omega) (yq66_5) (pcq66.elim (fun pcq66 => (Or.inl ⟨by omega, by omega, by omega, by omega⟩)) (fun pcq66 => (pcq66.elim (fun pcq66 => (Or.inr (Or.inl ⟨by omega, by omega, by omega, by omega, by omega⟩))) (fun pcq66 => (pcq66.elim (fun pcq66 => (Or.inr (Or.inr (Or.inl ⟨by omega, by omega, by omega, by omega, by omega⟩)))) (fun pcq66 => (pcq66.elim (fun pcq66 => (Or.inr (Or.inr (Or.inr (Or.inl ⟨by omega, by omega, by omega, by omega, by omega, by omega, by omega, by omega⟩))))) (fun pcq66 => (Or.inr (Or.inr (Or.inr (Or.inr ⟨by omega, by omega, by omega, by omega, by omega, by omega⟩)))))))))))) _ _ (h_al_ok ⟨rfl, trivial⟩ hlw68) hRw68)
set_option maxHeartbeats 100000000 in
theorem ls_feu {ns : Nat} {σ1 σ2 : h_S} (hI1 : h_I σ1) (hI2 : h_I σ2) (hTL : d_tape σ1 σ2) (x1 : Int32) (a1 : Int) (hx1 : x1.toInt = a1) (y1 : Int32) (c1 : Int) (hy1 : y1.toInt = c1) (pr0 : σ1 64 2 = σ2 98 15) (pr1 : σ1 64 4 = σ2 98 16) (pr2 : σ1 63 2 = σ2 98 13) (pr3 : σ1 66 8 = σ2 98 5) (pr4 : σ1 66 9 = σ2 98 6) (pr5 : σ1 66 10 = σ2 101 43) (pr6 : σ1 69 2 = σ2 101 18) (pr7 : σ1 72 2 = σ2 101 25) (pr8 : σ1 63 5 = σ2 98 7) (pr9 : σ1 64 2 ≤ σ1 64 1) (pr10 : d_RD σ1 σ2) (pr11 : a1 = c1) (pr12 : a1 = 5) (pc0 : ((σ1 63 2 = 0) ∧ (σ2 98 13 = 0))) {cs1 cs2 : List d_Fr} {Q : d_Q} (kx0 : ∀ (s t : h_S), h_I s → h_I t → h_F (k_in k_pl) s σ1 → h_F (k_in k_pm) t σ2 → (s 64 2 = t 98 15) → (s 64 4 = t 98 16) → (s 63 2 = t 98 13) → (s 64 2 ≤ s 64 1) → (σ1 64 2 ≤ s 64 2) → (d_ok s t) → (((1 ≤ s 63 2 ∧ s 63 2 ≤ 6) ∧ (1 ≤ t 98 13 ∧ t 98 13 ≤ 6) ∧ (s 63 2 = t 98 13) ∧ (s 63 3 = t 98 14)) ∨ ((s 63 2 = 0) ∧ (s 64 3 = 3) ∧ (t 98 13 = 0) ∧ (t 98 17 = 3) ∧ (s 64 4 < s 64 2) ∧ (σ1 64 2 < s 64 2))) → ∀ lv2 mem2, h_loc [(0, .ref 98)] lv2 → h_R (g_Y ns) t mem2 → h_T g_P (g_Y ns) 56 180 [(0, .ref 63)] [] s (d_cs g_P (g_Y ns) cs1 (d_L g_P (g_Y ns) (154, 165, lv2, []) cs2 mem2 Q))) (kx1 : ∀ (s t : h_S), h_I s → h_I t → h_F (k_in k_pl) s σ1 → h_F (k_in k_pm) t σ2 → (s 64 2 = t 98 15) → (s 64 4 = t 98 16) → (s 63 2 = t 98 13) → (s 64 2 ≤ s 64 1) → (σ1 64 2 ≤ s 64 2) → (((1 ≤ s 63 2 ∧ s 63 2 ≤ 6) ∧ (1 ≤ t 98 13 ∧ t 98 13 ≤ 6) ∧ (s 63 2 = t 98 13) ∧ (s 63 3 = t 98 14))) → ∀ lv2 mem2, h_loc [(0, .ref 98)] lv2 → h_R (g_Y ns) t mem2 → h_T g_P (g_Y ns) 56 180 [(0, .ref 63)] [] s (d_cs g_P (g_Y ns) cs1 (d_L g_P (g_Y ns) (154, 139, lv2, []) cs2 mem2 Q))) : ∀ lv2 mem2, h_loc [(0, .ref 98), (1, .int y1)] lv2 → h_R (g_Y ns) σ2 mem2 → h_T g_P (g_Y ns) 56 102 [(0, .ref 63), (1, .int x1)] [] σ1 (d_cs g_P (g_Y ns) cs1 (d_L g_P (g_Y ns) (154, 23, lv2, []) cs2 mem2 Q)) := by
  intro lv2 mem2 hl2 hR2
  have hT := hTL.1
  have hL := hTL.2
  have F1 : h_F (k_in k_pl) σ1 σ1 := h_F.rf
  have F2 : h_F (k_in k_pm) σ2 σ2 := h_F.rf
  have ge0 := tf_64_1 hI1
  have ge1 := tf_66_8 hI1
  have ge2 := tf_66_9 hI1
  have ge3 := tf_66_10 hI1
  have ge4 := tf_69_2 hI1
  have ge5 := tf_72_2 hI1
  have ge6 := tf_63_5 hI1
  have ge7 := tf_63_2 hI1
  have ge8 := tf_98_8 hI2
  have ge9 := tf_98_9 hI2
  have ge10 := tf_98_13 hI2
  rcases pc0 with pc0
  · show h_T g_P (g_Y ns) 56 102 [(0, .ref 63), (1, .int x1)] [] σ1 _
    refine h_aload_n (pc' := 103) rfl rfl rfl ?_
    refine h_aload_n (pc' := 104) rfl rfl rfl ?_
    refine h_getR (pc' := 107) rfl rfl rfl rfl rfl ?_
    refine h_getR (pc' := 110) rfl rfl rfl rfl rfl ?_
    refine d_call (g_inj ns) (pc' := 113) (m := 60) (M := [(0, .ref 63), (1, .ref 72)]) (rest := []) ⟨false, _, _, _, _, _, _, rfl, rfl, rfl, rfl, rfl, rfl, rfl⟩ (fun lv21 hlv21 => ?_)
    refine h_aload_n (pc' := 1) rfl rfl rfl ?_
    refine h_aload_n (pc' := 2) rfl rfl rfl ?_
    refine h_call (sp := false) (pc' := 5) (M := [(0, .ref 72)]) rfl rfl rfl rfl rfl rfl rfl rfl ?_
    refine h_aload_n (pc' := 1) rfl rfl rfl ?_
    refine h_getI (pc' := 4) (v := σ1 72 2) rfl rfl rfl rfl rfl rfl (fun z22 hz22 => ?_)
    have tz22 := tf_72_2 hI1
    refine h_iconst (pc' := 5) (x := (Int32.ofInt 3)) rfl rfl rfl ?_
    refine h_clt (tg := 12) (pc' := 8) rfl rfl rfl hz22 ci_3 (fun c23 => ?_) (fun c23 => ?_)
    · clear hz22
      refine h_iconst (pc' := 13) (x := (Int32.ofInt 0)) rfl rfl rfl ?_
      refine h_zret rfl rfl ci_0 (by omega) (h_Kv ?_)
      refine d_call (g_inj ns) (pc' := 8) (m := 57) (M := [(0, .ref 63), (1, .int (Int32.ofInt 0))]) (rest := []) ⟨false, _, _, _, _, _, _, rfl, rfl, rfl, rfl, rfl, rfl, rfl⟩ (fun lv24 hlv24 => ?_)
      refine h_iload_n (pc' := 1) rfl rfl rfl ?_
      refine h_zeq (tg := 16) (pc' := 4) rfl rfl rfl ci_0 (fun c25 => ?_) (fun c25 => absurd c25 (by omega))
      refine h_aload_n (pc' := 17) rfl rfl rfl ?_
      refine d_toM (g_inj ns) hl2 hR2 (fun lvw26 memw26 hlw26 hRw26 => ?_)
      show h_T g_P (g_Y ns) 154 23 [(0, .ref 98), (1, .int y1)] [] σ2 _
      refine h_iload_n (pc' := 24) rfl rfl rfl ?_
      refine h_iconst (pc' := 25) (x := (Int32.ofInt 3)) rfl rfl rfl ?_
      refine h_cgt (tg := 37) (pc' := 28) rfl rfl rfl hy1 ci_3 (fun c27 => ?_) (fun c27 => absurd c27 (by omega))
      refine h_iload_n (pc' := 38) rfl rfl rfl ?_
      refine h_iconst (pc' := 39) (x := (Int32.ofInt 4)) rfl rfl rfl ?_
      refine h_cne (tg := 53) (pc' := 42) rfl rfl rfl hy1 ci_4 (fun c28 => ?_) (fun c28 => absurd c28 (by omega))
      refine h_iload_n (pc' := 54) rfl rfl rfl ?_
      refine h_iconst (pc' := 55) (x := (Int32.ofInt 5)) rfl rfl rfl ?_
      refine h_cne (tg := 69) (pc' := 58) rfl rfl rfl hy1 ci_5 (fun c29 => absurd c29 (by omega)) (fun c29 => ?_)
      refine h_aload_n (pc' := 59) rfl rfl rfl ?_
      refine h_getR (pc' := 62) rfl rfl rfl rfl rfl ?_
      refine h_bipush (pc' := 64) (x := (Int32.ofInt 25)) rfl rfl cb_25 ?_
      refine h_iald (pc' := 65) (v := σ2 101 25) rfl rfl rfl ci_25 (by omega) (by omega) rfl (fun z30 hz30 => ?_)
      have tz30 := ty_101_5 hI2 25 (by omega)
      refine h_iconst (pc' := 66) (x := (Int32.ofInt 3)) rfl rfl rfl ?_
      refine h_ceq (tg := 83) (pc' := 69) rfl rfl rfl hz30 ci_3 (fun c31 => absurd c31 (by omega)) (fun c31 => ?_)
      clear hz30
      refine h_iload_n (pc' := 70) rfl rfl rfl ?_
      refine h_bipush (pc' := 72) (x := (Int32.ofInt 6)) rfl rfl cb_6 ?_
      refine h_cne (tg := 88) (pc' := 75) rfl rfl rfl hy1 ci_6 (fun c32 => ?_) (fun c32 => absurd c32 (by omega))
      refine h_iload_n (pc' := 89) rfl rfl rfl ?_
      refine h_bipush (pc' := 91) (x := (Int32.ofInt 7)) rfl rfl cb_7 ?_
      refine h_cne (tg := 106) (pc' := 94) rfl rfl rfl hy1 ci_7 (fun c33 => ?_) (fun c33 => absurd c33 (by omega))
      refine h_aload_n (pc' := 107) rfl rfl rfl ?_
      refine h_aload_n (pc' := 108) rfl rfl rfl ?_
      refine h_getI (pc' := 111) (v := σ2 98 7) rfl rfl rfl rfl rfl rfl (fun z34 hz34 => ?_)
      have tz34 := tf_98_7 hI2
      refine h_zne (tg := 120) (pc' := 114) rfl rfl rfl hz34 (fun c35 => ?_) (fun c35 => ?_)
      · clear hz34
        refine h_iconst (pc' := 121) (x := (Int32.ofInt 1)) rfl rfl rfl ?_
        refine h_goto (pc' := 125) rfl rfl ?_
        refine h_put (pc' := 128) rfl rfl rfl rfl rfl rfl ci_1 (h_fb ci_1 (by omega)) (h_fgt (E := fun s => s 98 15 = σ2 98 15 ∧ s 98 16 = σ2 98 16 ∧ s 98 17 = σ2 98 17 ∧ s 98 18 = σ2 98 18 ∧ s 98 13 = σ2 98 13 ∧ s 98 14 = σ2 98 14 ∧ s 98 5 = σ2 98 5 ∧ s 98 6 = σ2 98 6 ∧ s 98 7 = 1 ∧ s 98 8 = σ2 98 8 ∧ s 98 9 = σ2 98 9 ∧ s 101 18 = σ2 101 18 ∧ s 101 25 = σ2 101 25 ∧ s 101 43 = σ2 101 43 ∧ s = h_up σ2 98 7 1) _ (if_98_7 hI2 (by omega)) (F2.up rfl) ⟨rfl, rfl, rfl, rfl, rfl, rfl, rfl, rfl, rfl, rfl, rfl, rfl, rfl, rfl, rfl⟩ (fun s36 Is36 Fs36 (es36 : s36 98 15 = σ2 98 15 ∧ s36 98 16 = σ2 98 16 ∧ s36 98 17 = σ2 98 17 ∧ s36 98 18 = σ2 98 18 ∧ s36 98 13 = σ2 98 13 ∧ s36 98 14 = σ2 98 14 ∧ s36 98 5 = σ2 98 5 ∧ s36 98 6 = σ2 98 6 ∧ s36 98 7 = 1 ∧ s36 98 8 = σ2 98 8 ∧ s36 98 9 = σ2 98 9 ∧ s36 101 18 = σ2 101 18 ∧ s36 101 25 = σ2 101 25 ∧ s36 101 43 = σ2 101 43 ∧ s36 = h_up σ2 98 7 1) => ?_))
        refine h_aload_n (pc' := 129) rfl rfl rfl ?_
        refine d_pcall (g_inj ns) (m1 := 54) (pc1' := 20) (M1 := [(0, .ref 63)]) (rest1 := []) (m2 := 148) (pc2' := 132) (M2 := [(0, .ref 98)]) (rest2 := []) ⟨false, _, _, _, _, _, _, rfl, rfl, rfl, rfl, rfl, rfl, rfl⟩ ⟨false, _, _, _, _, _, _, rfl, rfl, rfl, rfl, rfl, rfl, rfl⟩ hRw26 ?_
        refine pp_step hI1 Is36 (hTL.fr (F1.mono rfl) (Fs36.mono rfl)) (by omega) (by omega) (by omega) (by omega) (Or.inr ⟨by omega, by omega⟩) (fun sq37 tq37 Isq37 Itq37 Gsq37 Gtq37 yq37_0 yq37_1 yq37_2 yq37_3 yq37_4 pcq37 memq37 hRq37 => ?_)
        have Fsq37 := (Gsq37.mono (B := k_pl) rfl).tr F1
        have Ftq37 := (Gtq37.mono (B := k_pm) rfl).tr Fs36
        have esq37_6 : sq37 64 1 = σ1 64 1 := (Gsq37 64 1 rfl).trans rfl
        have esq37_7 : sq37 66 8 = σ1 66 8 := (Gsq37 66 8 rfl).trans rfl
        have esq37_8 : sq37 66 9 = σ1 66 9 := (Gsq37 66 9 rfl).trans rfl
        have esq37_9 : sq37 66 10 = σ1 66 10 := (Gsq37 66 10 rfl).trans rfl
        have esq37_10 : sq37 69 2 = σ1 69 2 := (Gsq37 69 2 rfl).trans rfl
        have esq37_11 : sq37 72 2 = σ1 72 2 := (Gsq37 72 2 rfl).trans rfl
        have esq37_12 : sq37 63 5 = σ1 63 5 := (Gsq37 63 5 rfl).trans rfl
        have etq37_6 : tq37 98 5 = σ2 98 5 := (Gtq37 98 5 rfl).trans es36.2.2.2.2.2.2.1
        have etq37_7 : tq37 98 6 = σ2 98 6 := (Gtq37 98 6 rfl).trans es36.2.2.2.2.2.2.2.1
        have etq37_8 : tq37 98 7 = 1 := (Gtq37 98 7 rfl).trans es36.2.2.2.2.2.2.2.2.1
        have etq37_9 : tq37 98 8 = σ2 98 8 := (Gtq37 98 8 rfl).trans es36.2.2.2.2.2.2.2.2.2.1
        have etq37_10 : tq37 98 9 = σ2 98 9 := (Gtq37 98 9 rfl).trans es36.2.2.2.2.2.2.2.2.2.2.1
        have etq37_11 : tq37 101 18 = σ2 101 18 := (Gtq37 101 18 rfl).trans es36.2.2.2.2.2.2.2.2.2.2.2.1
        have etq37_12 : tq37 101 25 = σ2 101 25 := (Gtq37 101 25 rfl).trans es36.2.2.2.2.2.2.2.2.2.2.2.2.1
        have etq37_13 : tq37 101 43 = σ2 101 43 := (Gtq37 101 43 rfl).trans es36.2.2.2.2.2.2.2.2.2.2.2.2.2.1
        show h_T g_P (g_Y ns) 154 132 [(0, .ref 98), (1, .int y1)] [] tq37 _
        refine h_aload_n (pc' := 133) rfl rfl rfl ?_
        refine h_getI (pc' := 136) (v := tq37 98 13) rfl rfl rfl rfl rfl rfl (fun z38 hz38 => ?_)
        have tz38 := tf_98_13 Itq37
        refine h_zle (tg := 140) (pc' := 139) rfl rfl rfl hz38 (fun c39 => ?_) (fun c39 => ?_)
        · clear hz38
          refine h_aload_n (pc' := 141) rfl rfl rfl ?_
          refine h_iload_n (pc' := 142) rfl rfl rfl ?_
          refine d_call (g_inj ns) (pc' := 145) (m := 153) (M := [(0, .ref 98), (1, .int y1)]) (rest := []) ⟨false, _, _, _, _, _, _, rfl, rfl, rfl, rfl, rfl, rfl, rfl⟩ (fun lv40 hlv40 => ?_)
          refine h_iload_n (pc' := 1) rfl rfl rfl ?_
          refine h_iconst (pc' := 2) (x := (Int32.ofInt 3)) rfl rfl rfl ?_
          refine h_cgt (tg := 61) (pc' := 5) rfl rfl rfl hy1 ci_3 (fun c41 => ?_) (fun c41 => absurd c41 (by omega))
          refine h_iload_n (pc' := 62) rfl rfl rfl ?_
          refine h_iconst (pc' := 63) (x := (Int32.ofInt 4)) rfl rfl rfl ?_
          refine h_cne (tg := 82) (pc' := 66) rfl rfl rfl hy1 ci_4 (fun c42 => ?_) (fun c42 => absurd c42 (by omega))
          refine h_iload_n (pc' := 83) rfl rfl rfl ?_
          refine h_iconst (pc' := 84) (x := (Int32.ofInt 5)) rfl rfl rfl ?_
          refine h_cne (tg := 103) (pc' := 87) rfl rfl rfl hy1 ci_5 (fun c43 => absurd c43 (by omega)) (fun c43 => ?_)
          refine h_aload_n (pc' := 88) rfl rfl rfl ?_
          refine h_bipush (pc' := 90) (x := (Int32.ofInt 19)) rfl rfl cb_19 ?_
          refine h_aload_n (pc' := 91) rfl rfl rfl ?_
          refine h_getR (pc' := 94) rfl rfl rfl rfl rfl ?_
          refine h_bipush (pc' := 96) (x := (Int32.ofInt 25)) rfl rfl cb_25 ?_
          refine h_iald (pc' := 97) (v := σ2 101 25) rfl rfl rfl ci_25 (by omega) (by omega) etq37_12 (fun z44 hz44 => ?_)
          refine d_call (g_inj ns) (pc' := 100) (m := 151) (M := [(0, .ref 98), (1, .int (Int32.ofInt 19)), (2, .int z44)]) (rest := []) ⟨false, _, _, _, _, _, _, rfl, rfl, rfl, rfl, rfl, rfl, rfl⟩ (fun lv45 hlv45 => ?_)
          refine d_toL (g_inj ns) hlw26 hRq37 (fun lvw46 memw46 hlw46 hRw46 => ?_)
          show h_T g_P (g_Y ns) 57 20 [(0, .ref 63), (1, .int (Int32.ofInt 0))] [] sq37 _
          refine h_vret rfl rfl (d_retn hlv24 ?_)
          refine h_wk [(0, .ref 63), (1, .ref 72)] ⟨rfl, rfl, trivial⟩ (ls_feu_b Isq37 Itq37 (hTL.fr (Fsq37.mono rfl) (Ftq37.mono rfl))  z44 _ hz44 (by omega) (by omega) (by omega) (by omega) (by omega) (by omega) (by omega) (by omega) (by omega) (by omega) (d_mk ((Gsq37 66 8 rfl)) ((Gsq37 66 9 rfl)) ((Gsq37 66 10 rfl)) ((Gsq37 69 2 rfl)) ((Gsq37 72 2 rfl)) ((Gsq37 63 5 rfl)) (fun j => (Gsq37 67 j rfl)) (fun j => (Gsq37 68 j rfl)) (fun j => (Gsq37 70 j rfl)) (fun j => (Gsq37 71 j rfl)) (fun j => (Gsq37 73 j rfl)) (fun j => (Gsq37 74 j rfl)) (fun j => (Gsq37 75 j rfl)) (fun j => (Gsq37 76 j rfl)) (fun j => (Gsq37 77 j rfl)) (fun j => (Gsq37 78 j rfl)) ((Gtq37 98 5 rfl).trans (h_upd es36.2.2.2.2.2.2.2.2.2.2.2.2.2.2 (by decide))) ((Gtq37 98 6 rfl).trans (h_upd es36.2.2.2.2.2.2.2.2.2.2.2.2.2.2 (by decide))) (by omega) ((Gtq37 98 8 rfl).trans (h_upd es36.2.2.2.2.2.2.2.2.2.2.2.2.2.2 (by decide))) ((Gtq37 98 9 rfl).trans (h_upd es36.2.2.2.2.2.2.2.2.2.2.2.2.2.2 (by decide))) (fun j => (Gtq37 101 j rfl).trans (h_upo es36.2.2.2.2.2.2.2.2.2.2.2.2.2.2 rfl j)) (pr10)) (by omega) (pcq37.elim (fun pcq37 => (by exfalso; omega)) (fun pcq37 => (pcq37.elim (fun pcq37 => (Or.inl ⟨by omega, by omega, by omega, by omega, by omega, by omega, by omega⟩)) (fun pcq37 => (pcq37.elim (fun pcq37 => (Or.inr (Or.inl ⟨by omega, by omega, by omega, by omega, by omega, by omega, by omega⟩))) (fun pcq37 => (pcq37.elim (fun pcq37 => (Or.inr (Or.inr (Or.inl ⟨by omega, by omega, by omega, by omega, by omega, by omega, by omega, by omega, by omega, by omega⟩)))) (fun pcq37 => (Or.inr (Or.inr (Or.inr ⟨by omega, by omega, by omega, by omega, by omega, by omega, by omega⟩))))))))))) (fun sq47 tq47 Isq47 Itq47 Gsq47 Gtq47   yq47_0 yq47_1 yq47_2 yq47_3 yq47_4 yq47_5 pcq47 lvq47 memq47 hlq47 hRq47 => ?_) _ _ (h_al_ok ⟨rfl, rfl, rfl, trivial⟩ hlw46) hRw46)
          · have Fsq47 := (Gsq47.mono (B := k_pl) rfl).tr Fsq37
            have Ftq47 := (Gtq47.mono (B := k_pm) rfl).tr Ftq37
            have Isq47 := Isq47
            have Itq47 := Itq47
            have Gsq47 := Gsq47
            have Gtq47 := Gtq47
            have esq47_6 : sq47 64 1 = σ1 64 1 := (Gsq47 64 1 rfl).trans esq37_6
            rcases pcq47 with pcq47 | pcq47
            · show h_T g_P (g_Y ns) 60 64 [(0, .ref 63)] [] sq47 _
              clear hz44
              refine h_vret rfl rfl (d_retn hlv21 ?_)
              refine h_goto (pc' := 150) rfl rfl ?_
              refine h_aload_n (pc' := 151) rfl rfl rfl ?_
              refine h_getI (pc' := 154) (v := sq47 63 2) rfl rfl rfl rfl rfl rfl (fun z48 hz48 => ?_)
              have tz48 := tf_63_2 Isq47
              refine h_zne (tg := 180) (pc' := 157) rfl rfl rfl hz48 (fun c49 => ?_) (fun c49 => absurd c49 (by omega))
              clear hz48
              refine d_toM (g_inj ns) hlq47 hRq47 (fun lvw50 memw50 hlw50 hRw50 => ?_)
              show h_T g_P (g_Y ns) 151 73 [(0, .ref 98)] [] tq47 _
              refine h_vret rfl rfl (d_retn hlv45 ?_)
              refine h_goto (pc' := 178) rfl rfl ?_
              refine h_vret rfl rfl (d_retn hlv40 ?_)
              refine h_aload_n (pc' := 146) rfl rfl rfl ?_
              refine h_getI (pc' := 149) (v := tq47 98 13) rfl rfl rfl rfl rfl rfl (fun z51 hz51 => ?_)
              have tz51 := tf_98_13 Itq47
              refine h_zne (tg := 165) (pc' := 152) rfl rfl rfl hz51 (fun c52 => ?_) (fun c52 => absurd c52 (by omega))
              clear hz51
              refine d_toL (g_inj ns) hlw50 hRw50 (fun lvw53 memw53 hlw53 hRw53 => ?_)
              show h_T g_P (g_Y ns) 56 180 [(0, .ref 63), (1, .int x1)] [] sq47 _
              exact h_wk [(0, .ref 63)] ⟨rfl, trivial⟩ (kx0 _ _ Isq47 Itq47 Fsq47 Ftq47 (by omega) (by omega) (by omega) (by omega) (by omega) (fun h => absurd h (by omega)) (Or.inl ⟨by omega, by omega, by omega, by omega⟩) _ _ (h_al_ok ⟨rfl, trivial⟩ hlw53) hRw53)
            · show h_T g_P (g_Y ns) 60 64 [(0, .ref 63)] [] sq47 _
              clear hz44
              refine h_vret rfl rfl (d_retn hlv21 ?_)
              refine h_goto (pc' := 150) rfl rfl ?_
              refine d_toM (g_inj ns) hlq47 hRq47 (fun lvw54 memw54 hlw54 hRw54 => ?_)
              show h_T g_P (g_Y ns) 151 73 [(0, .ref 98)] [] tq47 _
              refine h_vret rfl rfl (d_retn hlv45 ?_)
              refine h_goto (pc' := 178) rfl rfl ?_
              refine h_vret rfl rfl (d_retn hlv40 ?_)
              refine d_toL (g_inj ns) hlw54 hRw54 (fun lvw55 memw55 hlw55 hRw55 => ?_)
              show h_T g_P (g_Y ns) 56 150 [(0, .ref 63), (1, .int x1)] [] sq47 _
              refine h_wk [(0, .ref 63)] ⟨rfl, trivial⟩ (ls_sc Isq47 Itq47 (hTL.fr (Fsq47.mono rfl) (Ftq47.mono rfl))   (by omega) (by omega) (by omega) (by omega) (yq47_5) (pcq47.elim (fun pcq47 => (Or.inl ⟨by omega, by omega, by omega, by omega, by omega⟩)) (fun pcq47 => (pcq47.elim (fun pcq47 => (Or.inr (Or.inl ⟨by omega, by omega, by omega, by omega, by omega⟩))) (fun pcq47 => (pcq47.elim (fun pcq47 => (Or.inr (Or.inr (Or.inl ⟨by omega, by omega, by omega, by omega, by omega, by omega, by omega, by omega⟩)))) (fun pcq47 => (Or.inr (Or.inr (Or.inr ⟨by omega, by omega, by omega, by omega, by omega⟩))))))))) (fun sq56 tq56 Isq56 Itq56 Gsq56 Gtq56   yq56_0 yq56_1 yq56_2 yq56_3 yq56_4 yq56_5 pcq56 lvq56 memq56 hlq56 hRq56 => ?_) _ _ (h_al_ok ⟨rfl, trivial⟩ hlw55) hRw55)
              · have Fsq56 := (Gsq56.mono (B := k_pl) rfl).tr Fsq47
                have Ftq56 := (Gtq56.mono (B := k_pm) rfl).tr Ftq47
                have Isq56 := Isq56
                have Itq56 := Itq56
                have Gsq56 := Gsq56
                have Gtq56 := Gtq56
                have esq56_6 : sq56 64 1 = σ1 64 1 := (Gsq56 64 1 rfl).trans esq47_6
                rcases pcq56 with pcq56 | pcq56
                · show h_T g_P (g_Y ns) 56 180 [(0, .ref 63)] [] sq56 _
                  refine d_toM (g_inj ns) hlq56 hRq56 (fun lvw57 memw57 hlw57 hRw57 => ?_)
                  show h_T g_P (g_Y ns) 154 165 [(0, .ref 98)] [] tq56 _
                  refine d_toL (g_inj ns) hlw57 hRw57 (fun lvw58 memw58 hlw58 hRw58 => ?_)
                  show h_T g_P (g_Y ns) 56 180 [(0, .ref 63)] [] sq56 _
                  exact h_wk [(0, .ref 63)] ⟨rfl, trivial⟩ (kx0 _ _ Isq56 Itq56 Fsq56 Ftq56 (by omega) (by omega) (by omega) (by omega) (by omega) (fun h => absurd h (by omega)) (Or.inl ⟨by omega, by omega, by omega, by omega⟩) _ _ (h_al_ok ⟨rfl, trivial⟩ hlw58) hRw58)
                · show h_T g_P (g_Y ns) 56 180 [(0, .ref 63)] [] sq56 _
                  refine d_toM (g_inj ns) hlq56 hRq56 (fun lvw59 memw59 hlw59 hRw59 => ?_)
                  show h_T g_P (g_Y ns) 154 165 [(0, .ref 98)] [] tq56 _
                  refine d_toL (g_inj ns) hlw59 hRw59 (fun lvw60 memw60 hlw60 hRw60 => ?_)
                  show h_T g_P (g_Y ns) 56 180 [(0, .ref 63)] [] sq56 _
                  exact h_wk [(0, .ref 63)] ⟨rfl, trivial⟩ (kx0 _ _ Isq56 Itq56 Fsq56 Ftq56 (by omega) (by omega) (by omega) (by omega) (by omega) (yq56_5) (Or.inr ⟨by omega, by omega, by omega, by omega, by omega, by omega⟩) _ _ (h_al_ok ⟨rfl, trivial⟩ hlw60) hRw60)
        · clear hz38
          refine d_toL (g_inj ns) hlw26 hRq37 (fun lvw61 memw61 hlw61 hRw61 => ?_)
          show h_T g_P (g_Y ns) 57 20 [(0, .ref 63), (1, .int (Int32.ofInt 0))] [] sq37 _
          refine h_vret rfl rfl (d_retn hlv24 ?_)
          refine h_aload_n (pc' := 9) rfl rfl rfl ?_
          refine h_iconst (pc' := 10) (x := (Int32.ofInt 5)) rfl rfl rfl ?_
          refine h_call (sp := false) (pc' := 13) (M := [(0, .ref 63), (1, .int (Int32.ofInt 5))]) rfl rfl rfl rfl rfl rfl rfl rfl ?_
          refine h_aload_n (pc' := 1) rfl rfl rfl ?_
          refine h_getI (pc' := 4) (v := sq37 63 2) rfl rfl rfl rfl rfl rfl (fun z62 hz62 => ?_)
          have tz62 := tf_63_2 Isq37
          refine h_zne (tg := 30) (pc' := 7) rfl rfl rfl hz62 (fun c63 => ?_) (fun c63 => absurd c63 (by omega))
          clear hz62
          refine h_aload_n (pc' := 31) rfl rfl rfl ?_
          refine h_getI (pc' := 34) (v := sq37 63 2) rfl rfl rfl rfl rfl rfl (fun z64 hz64 => ?_)
          refine h_zne (tg := 60) (pc' := 37) rfl rfl rfl hz64 (fun c65 => ?_) (fun c65 => absurd c65 (by omega))
          clear hz64
          refine h_aload_n (pc' := 61) rfl rfl rfl ?_
          refine h_getR (pc' := 64) rfl rfl rfl rfl rfl ?_
          refine h_getI (pc' := 67) (v := sq37 64 5) rfl rfl rfl rfl rfl rfl (fun z66 hz66 => ?_)
          have tz66 := tf_64_5 Isq37
          refine h_istore_n (pc' := 68) (M := [(2, .int z66), (0, .ref 63), (1, .int (Int32.ofInt 5))]) rfl rfl rfl rfl ?_
          refine h_aload_n (pc' := 69) rfl rfl rfl ?_
          refine h_call (sp := false) (pc' := 72) (M := [(0, .ref 63)]) rfl rfl rfl rfl rfl rfl rfl rfl ?_
          refine h_aload_n (pc' := 1) rfl rfl rfl ?_
          refine h_getI (pc' := 4) (v := sq37 63 2) rfl rfl rfl rfl rfl rfl (fun z67 hz67 => ?_)
          refine h_zne (tg := 37) (pc' := 7) rfl rfl rfl hz67 (fun c68 => ?_) (fun c68 => absurd c68 (by omega))
          clear hz67
          refine h_vret rfl rfl (h_Kn ?_)
          refine h_iload_n (pc' := 73) rfl rfl rfl ?_
          refine h_iret rfl rfl (h_Kv ?_)
          refine h_istore_n (pc' := 14) (M := [(2, .int z66), (0, .ref 63), (1, .ref 72)]) rfl rfl rfl rfl ?_
          refine h_aload_n (pc' := 15) rfl rfl rfl ?_
          refine h_call (sp := false) (pc' := 18) (M := [(0, .ref 63)]) rfl rfl rfl rfl rfl rfl rfl rfl ?_
          refine h_aload_n (pc' := 1) rfl rfl rfl ?_
          refine h_getI (pc' := 4) (v := sq37 63 2) rfl rfl rfl rfl rfl rfl (fun z69 hz69 => ?_)
          refine h_zne (tg := 22) (pc' := 7) rfl rfl rfl hz69 (fun c70 => ?_) (fun c70 => absurd c70 (by omega))
          clear hz69
          refine h_iconst (pc' := 23) (x := (Int32.ofInt 0)) rfl rfl rfl ?_
          refine h_zret rfl rfl ci_0 (by omega) (h_Kv ?_)
          refine h_zeq (tg := 44) (pc' := 21) rfl rfl rfl ci_0 (fun c71 => ?_) (fun c71 => absurd c71 (by omega))
          refine h_aload_n (pc' := 45) rfl rfl rfl ?_
          refine h_iconst (pc' := 46) (x := (Int32.ofInt 5)) rfl rfl rfl ?_
          refine h_call (sp := false) (pc' := 49) (M := [(0, .ref 63), (1, .int (Int32.ofInt 5))]) rfl rfl rfl rfl rfl rfl rfl rfl ?_
          refine h_aload_n (pc' := 1) rfl rfl rfl ?_
          refine h_getI (pc' := 4) (v := sq37 63 2) rfl rfl rfl rfl rfl rfl (fun z72 hz72 => ?_)
          refine h_zne (tg := 30) (pc' := 7) rfl rfl rfl hz72 (fun c73 => ?_) (fun c73 => absurd c73 (by omega))
          clear hz72
          refine h_aload_n (pc' := 31) rfl rfl rfl ?_
          refine h_getI (pc' := 34) (v := sq37 63 2) rfl rfl rfl rfl rfl rfl (fun z74 hz74 => ?_)
          refine h_zne (tg := 60) (pc' := 37) rfl rfl rfl hz74 (fun c75 => ?_) (fun c75 => absurd c75 (by omega))
          clear hz74
          refine h_aload_n (pc' := 61) rfl rfl rfl ?_
          refine h_getR (pc' := 64) rfl rfl rfl rfl rfl ?_
          refine h_getI (pc' := 67) (v := sq37 64 5) rfl rfl rfl rfl rfl rfl (fun z76 hz76 => ?_)
          refine h_istore_n (pc' := 68) (M := [(2, .int z76), (0, .ref 63), (1, .int (Int32.ofInt 5))]) rfl rfl rfl rfl ?_
          refine h_aload_n (pc' := 69) rfl rfl rfl ?_
          refine h_call (sp := false) (pc' := 72) (M := [(0, .ref 63)]) rfl rfl rfl rfl rfl rfl rfl rfl ?_
          refine h_aload_n (pc' := 1) rfl rfl rfl ?_
          refine h_getI (pc' := 4) (v := sq37 63 2) rfl rfl rfl rfl rfl rfl (fun z77 hz77 => ?_)
          refine h_zne (tg := 37) (pc' := 7) rfl rfl rfl hz77 (fun c78 => ?_) (fun c78 => absurd c78 (by omega))
          clear hz77
          refine h_vret rfl rfl (h_Kn ?_)
          refine h_iload_n (pc' := 73) rfl rfl rfl ?_
          refine h_iret rfl rfl (h_Kv ?_)
          refine h_istore_n (pc' := 50) (M := [(3, .int z76), (2, .int z66), (0, .ref 63), (1, .ref 72)]) rfl rfl rfl rfl ?_
          refine h_aload_n (pc' := 51) rfl rfl rfl ?_
          refine h_getI (pc' := 54) (v := sq37 63 2) rfl rfl rfl rfl rfl rfl (fun z79 hz79 => ?_)
          refine h_zne (tg := 64) (pc' := 57) rfl rfl rfl hz79 (fun c80 => ?_) (fun c80 => absurd c80 (by omega))
          clear hz79
          refine h_vret rfl rfl (d_retn hlv21 ?_)
          clear hz66 hz76
          refine h_goto (pc' := 150) rfl rfl ?_
          refine h_aload_n (pc' := 151) rfl rfl rfl ?_
          refine h_getI (pc' := 154) (v := sq37 63 2) rfl rfl rfl rfl rfl rfl (fun z81 hz81 => ?_)
          refine h_zne (tg := 180) (pc' := 157) rfl rfl rfl hz81 (fun c82 => ?_) (fun c82 => absurd c82 (by omega))
          clear hz81
          exact h_wk [(0, .ref 63)] ⟨rfl, trivial⟩ (kx1 _ _ Isq37 Itq37 Fsq37 Ftq37 (by omega) (by omega) (by omega) (by omega) (by omega) (pcq37.elim (fun pcq37 => ⟨by omega, by omega, by omega, by omega⟩) (fun pcq37 => (pcq37.elim (fun pcq37 => (by exfalso; omega)) (fun pcq37 => (pcq37.elim (fun pcq37 => (by exfalso; omega)) (fun pcq37 => (pcq37.elim (fun pcq37 => (by exfalso; omega)) (fun pcq37 => (by exfalso; omega))))))))) _ _ (h_al_ok ⟨rfl, trivial⟩ hlw61) hRw61)
      · clear hz34
        refine h_iload_n (pc' := 115) rfl rfl rfl ?_
        refine h_bipush (pc' := 117) (x := (Int32.ofInt 7)) rfl rfl cb_7 ?_
        refine h_cne (tg := 124) (pc' := 120) rfl rfl rfl hy1 ci_7 (fun c83 => ?_) (fun c83 => absurd c83 (by omega))
        refine h_iconst (pc' := 125) (x := (Int32.ofInt 0)) rfl rfl rfl ?_
        refine h_put (pc' := 128) rfl rfl rfl rfl rfl rfl ci_0 (h_fb ci_0 (by omega)) (h_fgt (E := fun s => s 98 15 = σ2 98 15 ∧ s 98 16 = σ2 98 16 ∧ s 98 17 = σ2 98 17 ∧ s 98 18 = σ2 98 18 ∧ s 98 13 = σ2 98 13 ∧ s 98 14 = σ2 98 14 ∧ s 98 5 = σ2 98 5 ∧ s 98 6 = σ2 98 6 ∧ s 98 7 = 0 ∧ s 98 8 = σ2 98 8 ∧ s 98 9 = σ2 98 9 ∧ s 101 18 = σ2 101 18 ∧ s 101 25 = σ2 101 25 ∧ s 101 43 = σ2 101 43 ∧ s = h_up σ2 98 7 0) _ (if_98_7 hI2 (by omega)) (F2.up rfl) ⟨rfl, rfl, rfl, rfl, rfl, rfl, rfl, rfl, rfl, rfl, rfl, rfl, rfl, rfl, rfl⟩ (fun s84 Is84 Fs84 (es84 : s84 98 15 = σ2 98 15 ∧ s84 98 16 = σ2 98 16 ∧ s84 98 17 = σ2 98 17 ∧ s84 98 18 = σ2 98 18 ∧ s84 98 13 = σ2 98 13 ∧ s84 98 14 = σ2 98 14 ∧ s84 98 5 = σ2 98 5 ∧ s84 98 6 = σ2 98 6 ∧ s84 98 7 = 0 ∧ s84 98 8 = σ2 98 8 ∧ s84 98 9 = σ2 98 9 ∧ s84 101 18 = σ2 101 18 ∧ s84 101 25 = σ2 101 25 ∧ s84 101 43 = σ2 101 43 ∧ s84 = h_up σ2 98 7 0) => ?_))
        refine h_aload_n (pc' := 129) rfl rfl rfl ?_
        refine d_pcall (g_inj ns) (m1 := 54) (pc1' := 20) (M1 := [(0, .ref 63)]) (rest1 := []) (m2 := 148) (pc2' := 132) (M2 := [(0, .ref 98)]) (rest2 := []) ⟨false, _, _, _, _, _, _, rfl, rfl, rfl, rfl, rfl, rfl, rfl⟩ ⟨false, _, _, _, _, _, _, rfl, rfl, rfl, rfl, rfl, rfl, rfl⟩ hRw26 ?_
        refine pp_step hI1 Is84 (hTL.fr (F1.mono rfl) (Fs84.mono rfl)) (by omega) (by omega) (by omega) (by omega) (Or.inr ⟨by omega, by omega⟩) (fun sq85 tq85 Isq85 Itq85 Gsq85 Gtq85 yq85_0 yq85_1 yq85_2 yq85_3 yq85_4 pcq85 memq85 hRq85 => ?_)
        have Fsq85 := (Gsq85.mono (B := k_pl) rfl).tr F1
        have Ftq85 := (Gtq85.mono (B := k_pm) rfl).tr Fs84
        have esq85_6 : sq85 64 1 = σ1 64 1 := (Gsq85 64 1 rfl).trans rfl
        have esq85_7 : sq85 66 8 = σ1 66 8 := (Gsq85 66 8 rfl).trans rfl
        have esq85_8 : sq85 66 9 = σ1 66 9 := (Gsq85 66 9 rfl).trans rfl
        have esq85_9 : sq85 66 10 = σ1 66 10 := (Gsq85 66 10 rfl).trans rfl
        have esq85_10 : sq85 69 2 = σ1 69 2 := (Gsq85 69 2 rfl).trans rfl
        have esq85_11 : sq85 72 2 = σ1 72 2 := (Gsq85 72 2 rfl).trans rfl
        have esq85_12 : sq85 63 5 = σ1 63 5 := (Gsq85 63 5 rfl).trans rfl
        have etq85_6 : tq85 98 5 = σ2 98 5 := (Gtq85 98 5 rfl).trans es84.2.2.2.2.2.2.1
        have etq85_7 : tq85 98 6 = σ2 98 6 := (Gtq85 98 6 rfl).trans es84.2.2.2.2.2.2.2.1
        have etq85_8 : tq85 98 7 = 0 := (Gtq85 98 7 rfl).trans es84.2.2.2.2.2.2.2.2.1
        have etq85_9 : tq85 98 8 = σ2 98 8 := (Gtq85 98 8 rfl).trans es84.2.2.2.2.2.2.2.2.2.1
        have etq85_10 : tq85 98 9 = σ2 98 9 := (Gtq85 98 9 rfl).trans es84.2.2.2.2.2.2.2.2.2.2.1
        have etq85_11 : tq85 101 18 = σ2 101 18 := (Gtq85 101 18 rfl).trans es84.2.2.2.2.2.2.2.2.2.2.2.1
        have etq85_12 : tq85 101 25 = σ2 101 25 := (Gtq85 101 25 rfl).trans es84.2.2.2.2.2.2.2.2.2.2.2.2.1
        have etq85_13 : tq85 101 43 = σ2 101 43 := (Gtq85 101 43 rfl).trans es84.2.2.2.2.2.2.2.2.2.2.2.2.2.1
        show h_T g_P (g_Y ns) 154 132 [(0, .ref 98), (1, .int y1)] [] tq85 _
        refine h_aload_n (pc' := 133) rfl rfl rfl ?_
        refine h_getI (pc' := 136) (v := tq85 98 13) rfl rfl rfl rfl rfl rfl (fun z86 hz86 => ?_)
        have tz86 := tf_98_13 Itq85
        refine h_zle (tg := 140) (pc' := 139) rfl rfl rfl hz86 (fun c87 => ?_) (fun c87 => ?_)
        · clear hz86
          refine h_aload_n (pc' := 141) rfl rfl rfl ?_
          refine h_iload_n (pc' := 142) rfl rfl rfl ?_
          refine d_call (g_inj ns) (pc' := 145) (m := 153) (M := [(0, .ref 98), (1, .int y1)]) (rest := []) ⟨false, _, _, _, _, _, _, rfl, rfl, rfl, rfl, rfl, rfl, rfl⟩ (fun lv88 hlv88 => ?_)
          refine h_iload_n (pc' := 1) rfl rfl rfl ?_
          refine h_iconst (pc' := 2) (x := (Int32.ofInt 3)) rfl rfl rfl ?_
          refine h_cgt (tg := 61) (pc' := 5) rfl rfl rfl hy1 ci_3 (fun c89 => ?_) (fun c89 => absurd c89 (by omega))
          refine h_iload_n (pc' := 62) rfl rfl rfl ?_
          refine h_iconst (pc' := 63) (x := (Int32.ofInt 4)) rfl rfl rfl ?_
          refine h_cne (tg := 82) (pc' := 66) rfl rfl rfl hy1 ci_4 (fun c90 => ?_) (fun c90 => absurd c90 (by omega))
          refine h_iload_n (pc' := 83) rfl rfl rfl ?_
          refine h_iconst (pc' := 84) (x := (Int32.ofInt 5)) rfl rfl rfl ?_
          refine h_cne (tg := 103) (pc' := 87) rfl rfl rfl hy1 ci_5 (fun c91 => absurd c91 (by omega)) (fun c91 => ?_)
          refine h_aload_n (pc' := 88) rfl rfl rfl ?_
          refine h_bipush (pc' := 90) (x := (Int32.ofInt 19)) rfl rfl cb_19 ?_
          refine h_aload_n (pc' := 91) rfl rfl rfl ?_
          refine h_getR (pc' := 94) rfl rfl rfl rfl rfl ?_
          refine h_bipush (pc' := 96) (x := (Int32.ofInt 25)) rfl rfl cb_25 ?_
          refine h_iald (pc' := 97) (v := σ2 101 25) rfl rfl rfl ci_25 (by omega) (by omega) etq85_12 (fun z92 hz92 => ?_)
          refine d_call (g_inj ns) (pc' := 100) (m := 151) (M := [(0, .ref 98), (1, .int (Int32.ofInt 19)), (2, .int z92)]) (rest := []) ⟨false, _, _, _, _, _, _, rfl, rfl, rfl, rfl, rfl, rfl, rfl⟩ (fun lv93 hlv93 => ?_)
          refine d_toL (g_inj ns) hlw26 hRq85 (fun lvw94 memw94 hlw94 hRw94 => ?_)
          show h_T g_P (g_Y ns) 57 20 [(0, .ref 63), (1, .int (Int32.ofInt 0))] [] sq85 _
          refine h_vret rfl rfl (d_retn hlv24 ?_)
          refine h_wk [(0, .ref 63), (1, .ref 72)] ⟨rfl, rfl, trivial⟩ (ls_feu_b Isq85 Itq85 (hTL.fr (Fsq85.mono rfl) (Ftq85.mono rfl))  z92 _ hz92 (by omega) (by omega) (by omega) (by omega) (by omega) (by omega) (by omega) (by omega) (by omega) (by omega) (d_mk ((Gsq85 66 8 rfl)) ((Gsq85 66 9 rfl)) ((Gsq85 66 10 rfl)) ((Gsq85 69 2 rfl)) ((Gsq85 72 2 rfl)) ((Gsq85 63 5 rfl)) (fun j => (Gsq85 67 j rfl)) (fun j => (Gsq85 68 j rfl)) (fun j => (Gsq85 70 j rfl)) (fun j => (Gsq85 71 j rfl)) (fun j => (Gsq85 73 j rfl)) (fun j => (Gsq85 74 j rfl)) (fun j => (Gsq85 75 j rfl)) (fun j => (Gsq85 76 j rfl)) (fun j => (Gsq85 77 j rfl)) (fun j => (Gsq85 78 j rfl)) ((Gtq85 98 5 rfl).trans (h_upd es84.2.2.2.2.2.2.2.2.2.2.2.2.2.2 (by decide))) ((Gtq85 98 6 rfl).trans (h_upd es84.2.2.2.2.2.2.2.2.2.2.2.2.2.2 (by decide))) (by omega) ((Gtq85 98 8 rfl).trans (h_upd es84.2.2.2.2.2.2.2.2.2.2.2.2.2.2 (by decide))) ((Gtq85 98 9 rfl).trans (h_upd es84.2.2.2.2.2.2.2.2.2.2.2.2.2.2 (by decide))) (fun j => (Gtq85 101 j rfl).trans (h_upo es84.2.2.2.2.2.2.2.2.2.2.2.2.2.2 rfl j)) (pr10)) (by omega) (pcq85.elim (fun pcq85 => (by exfalso; omega)) (fun pcq85 => (pcq85.elim (fun pcq85 => (Or.inl ⟨by omega, by omega, by omega, by omega, by omega, by omega, by omega⟩)) (fun pcq85 => (pcq85.elim (fun pcq85 => (Or.inr (Or.inl ⟨by omega, by omega, by omega, by omega, by omega, by omega, by omega⟩))) (fun pcq85 => (pcq85.elim (fun pcq85 => (Or.inr (Or.inr (Or.inl ⟨by omega, by omega, by omega, by omega, by omega, by omega, by omega, by omega, by omega, by omega⟩)))) (fun pcq85 => (Or.inr (Or.inr (Or.inr ⟨by omega, by omega, by omega, by omega, by omega, by omega, by omega⟩))))))))))) (fun sq95 tq95 Isq95 Itq95 Gsq95 Gtq95   yq95_0 yq95_1 yq95_2 yq95_3 yq95_4 yq95_5 pcq95 lvq95 memq95 hlq95 hRq95 => ?_) _ _ (h_al_ok ⟨rfl, rfl, rfl, trivial⟩ hlw94) hRw94)
          · have Fsq95 := (Gsq95.mono (B := k_pl) rfl).tr Fsq85
            have Ftq95 := (Gtq95.mono (B := k_pm) rfl).tr Ftq85
            have Isq95 := Isq95
            have Itq95 := Itq95
            have Gsq95 := Gsq95
            have Gtq95 := Gtq95
            have esq95_6 : sq95 64 1 = σ1 64 1 := (Gsq95 64 1 rfl).trans esq85_6
            rcases pcq95 with pcq95 | pcq95
            · show h_T g_P (g_Y ns) 60 64 [(0, .ref 63)] [] sq95 _
              clear hz92
              refine h_vret rfl rfl (d_retn hlv21 ?_)
              refine h_goto (pc' := 150) rfl rfl ?_
              refine h_aload_n (pc' := 151) rfl rfl rfl ?_
              refine h_getI (pc' := 154) (v := sq95 63 2) rfl rfl rfl rfl rfl rfl (fun z96 hz96 => ?_)
              have tz96 := tf_63_2 Isq95
              refine h_zne (tg := 180) (pc' := 157) rfl rfl rfl hz96 (fun c97 => ?_) (fun c97 => absurd c97 (by omega))
              clear hz96
              refine d_toM (g_inj ns) hlq95 hRq95 (fun lvw98 memw98 hlw98 hRw98 => ?_)
              show h_T g_P (g_Y ns) 151 73 [(0, .ref 98)] [] tq95 _
              refine h_vret rfl rfl (d_retn hlv93 ?_)
              refine h_goto (pc' := 178) rfl rfl ?_
              refine h_vret rfl rfl (d_retn hlv88 ?_)
              refine h_aload_n (pc' := 146) rfl rfl rfl ?_
              refine h_getI (pc' := 149) (v := tq95 98 13) rfl rfl rfl rfl rfl rfl (fun z99 hz99 => ?_)
              have tz99 := tf_98_13 Itq95
              refine h_zne (tg := 165) (pc' := 152) rfl rfl rfl hz99 (fun c100 => ?_) (fun c100 => absurd c100 (by omega))
              clear hz99
              refine d_toL (g_inj ns) hlw98 hRw98 (fun lvw101 memw101 hlw101 hRw101 => ?_)
              show h_T g_P (g_Y ns) 56 180 [(0, .ref 63), (1, .int x1)] [] sq95 _
              exact h_wk [(0, .ref 63)] ⟨rfl, trivial⟩ (kx0 _ _ Isq95 Itq95 Fsq95 Ftq95 (by omega) (by omega) (by omega) (by omega) (by omega) (fun h => absurd h (by omega)) (Or.inl ⟨by omega, by omega, by omega, by omega⟩) _ _ (h_al_ok ⟨rfl, trivial⟩ hlw101) hRw101)
            · show h_T g_P (g_Y ns) 60 64 [(0, .ref 63)] [] sq95 _
              clear hz92
              refine h_vret rfl rfl (d_retn hlv21 ?_)
              refine h_goto (pc' := 150) rfl rfl ?_
              refine d_toM (g_inj ns) hlq95 hRq95 (fun lvw102 memw102 hlw102 hRw102 => ?_)
              show h_T g_P (g_Y ns) 151 73 [(0, .ref 98)] [] tq95 _
              refine h_vret rfl rfl (d_retn hlv93 ?_)
              refine h_goto (pc' := 178) rfl rfl ?_
              refine h_vret rfl rfl (d_retn hlv88 ?_)
              refine d_toL (g_inj ns) hlw102 hRw102 (fun lvw103 memw103 hlw103 hRw103 => ?_)
              show h_T g_P (g_Y ns) 56 150 [(0, .ref 63), (1, .int x1)] [] sq95 _
              refine h_wk [(0, .ref 63)] ⟨rfl, trivial⟩ (ls_sc Isq95 Itq95 (hTL.fr (Fsq95.mono rfl) (Ftq95.mono rfl))   (by omega) (by omega) (by omega) (by omega) (yq95_5) (pcq95.elim (fun pcq95 => (Or.inl ⟨by omega, by omega, by omega, by omega, by omega⟩)) (fun pcq95 => (pcq95.elim (fun pcq95 => (Or.inr (Or.inl ⟨by omega, by omega, by omega, by omega, by omega⟩))) (fun pcq95 => (pcq95.elim (fun pcq95 => (Or.inr (Or.inr (Or.inl ⟨by omega, by omega, by omega, by omega, by omega, by omega, by omega, by omega⟩)))) (fun pcq95 => (Or.inr (Or.inr (Or.inr ⟨by omega, by omega, by omega, by omega, by omega⟩))))))))) (fun sq104 tq104 Isq104 Itq104 Gsq104 Gtq104   yq104_0 yq104_1 yq104_2 yq104_3 yq104_4 yq104_5 pcq104 lvq104 memq104 hlq104 hRq104 => ?_) _ _ (h_al_ok ⟨rfl, trivial⟩ hlw103) hRw103)
              · have Fsq104 := (Gsq104.mono (B := k_pl) rfl).tr Fsq95
                have Ftq104 := (Gtq104.mono (B := k_pm) rfl).tr Ftq95
                have Isq104 := Isq104
                have Itq104 := Itq104
                have Gsq104 := Gsq104
                have Gtq104 := Gtq104
                have esq104_6 : sq104 64 1 = σ1 64 1 := (Gsq104 64 1 rfl).trans esq95_6
                rcases pcq104 with pcq104 | pcq104
                · show h_T g_P (g_Y ns) 56 180 [(0, .ref 63)] [] sq104 _
                  refine d_toM (g_inj ns) hlq104 hRq104 (fun lvw105 memw105 hlw105 hRw105 => ?_)
                  show h_T g_P (g_Y ns) 154 165 [(0, .ref 98)] [] tq104 _
                  refine d_toL (g_inj ns) hlw105 hRw105 (fun lvw106 memw106 hlw106 hRw106 => ?_)
                  show h_T g_P (g_Y ns) 56 180 [(0, .ref 63)] [] sq104 _
                  exact h_wk [(0, .ref 63)] ⟨rfl, trivial⟩ (kx0 _ _ Isq104 Itq104 Fsq104 Ftq104 (by omega) (by omega) (by omega) (by omega) (by omega) (fun h => absurd h (by omega)) (Or.inl ⟨by omega, by omega, by omega, by omega⟩) _ _ (h_al_ok ⟨rfl, trivial⟩ hlw106) hRw106)
                · show h_T g_P (g_Y ns) 56 180 [(0, .ref 63)] [] sq104 _
                  refine d_toM (g_inj ns) hlq104 hRq104 (fun lvw107 memw107 hlw107 hRw107 => ?_)
                  show h_T g_P (g_Y ns) 154 165 [(0, .ref 98)] [] tq104 _
                  refine d_toL (g_inj ns) hlw107 hRw107 (fun lvw108 memw108 hlw108 hRw108 => ?_)
                  show h_T g_P (g_Y ns) 56 180 [(0, .ref 63)] [] sq104 _
                  exact h_wk [(0, .ref 63)] ⟨rfl, trivial⟩ (kx0 _ _ Isq104 Itq104 Fsq104 Ftq104 (by omega) (by omega) (by omega) (by omega) (by omega) (yq104_5) (Or.inr ⟨by omega, by omega, by omega, by omega, by omega, by omega⟩) _ _ (h_al_ok ⟨rfl, trivial⟩ hlw108) hRw108)
        · clear hz86
          refine d_toL (g_inj ns) hlw26 hRq85 (fun lvw109 memw109 hlw109 hRw109 => ?_)
          show h_T g_P (g_Y ns) 57 20 [(0, .ref 63), (1, .int (Int32.ofInt 0))] [] sq85 _
          refine h_vret rfl rfl (d_retn hlv24 ?_)
          refine h_aload_n (pc' := 9) rfl rfl rfl ?_
          refine h_iconst (pc' := 10) (x := (Int32.ofInt 5)) rfl rfl rfl ?_
          refine h_call (sp := false) (pc' := 13) (M := [(0, .ref 63), (1, .int (Int32.ofInt 5))]) rfl rfl rfl rfl rfl rfl rfl rfl ?_
          refine h_aload_n (pc' := 1) rfl rfl rfl ?_
          refine h_getI (pc' := 4) (v := sq85 63 2) rfl rfl rfl rfl rfl rfl (fun z110 hz110 => ?_)
          have tz110 := tf_63_2 Isq85
          refine h_zne (tg := 30) (pc' := 7) rfl rfl rfl hz110 (fun c111 => ?_) (fun c111 => absurd c111 (by omega))
          clear hz110
          refine h_aload_n (pc' := 31) rfl rfl rfl ?_
          refine h_getI (pc' := 34) (v := sq85 63 2) rfl rfl rfl rfl rfl rfl (fun z112 hz112 => ?_)
          refine h_zne (tg := 60) (pc' := 37) rfl rfl rfl hz112 (fun c113 => ?_) (fun c113 => absurd c113 (by omega))
          clear hz112
          refine h_aload_n (pc' := 61) rfl rfl rfl ?_
          refine h_getR (pc' := 64) rfl rfl rfl rfl rfl ?_
          refine h_getI (pc' := 67) (v := sq85 64 5) rfl rfl rfl rfl rfl rfl (fun z114 hz114 => ?_)
          have tz114 := tf_64_5 Isq85
          refine h_istore_n (pc' := 68) (M := [(2, .int z114), (0, .ref 63), (1, .int (Int32.ofInt 5))]) rfl rfl rfl rfl ?_
          refine h_aload_n (pc' := 69) rfl rfl rfl ?_
          refine h_call (sp := false) (pc' := 72) (M := [(0, .ref 63)]) rfl rfl rfl rfl rfl rfl rfl rfl ?_
          refine h_aload_n (pc' := 1) rfl rfl rfl ?_
          refine h_getI (pc' := 4) (v := sq85 63 2) rfl rfl rfl rfl rfl rfl (fun z115 hz115 => ?_)
          refine h_zne (tg := 37) (pc' := 7) rfl rfl rfl hz115 (fun c116 => ?_) (fun c116 => absurd c116 (by omega))
          clear hz115
          refine h_vret rfl rfl (h_Kn ?_)
          refine h_iload_n (pc' := 73) rfl rfl rfl ?_
          refine h_iret rfl rfl (h_Kv ?_)
          refine h_istore_n (pc' := 14) (M := [(2, .int z114), (0, .ref 63), (1, .ref 72)]) rfl rfl rfl rfl ?_
          refine h_aload_n (pc' := 15) rfl rfl rfl ?_
          refine h_call (sp := false) (pc' := 18) (M := [(0, .ref 63)]) rfl rfl rfl rfl rfl rfl rfl rfl ?_
          refine h_aload_n (pc' := 1) rfl rfl rfl ?_
          refine h_getI (pc' := 4) (v := sq85 63 2) rfl rfl rfl rfl rfl rfl (fun z117 hz117 => ?_)
          refine h_zne (tg := 22) (pc' := 7) rfl rfl rfl hz117 (fun c118 => ?_) (fun c118 => absurd c118 (by omega))
          clear hz117
          refine h_iconst (pc' := 23) (x := (Int32.ofInt 0)) rfl rfl rfl ?_
          refine h_zret rfl rfl ci_0 (by omega) (h_Kv ?_)
          refine h_zeq (tg := 44) (pc' := 21) rfl rfl rfl ci_0 (fun c119 => ?_) (fun c119 => absurd c119 (by omega))
          refine h_aload_n (pc' := 45) rfl rfl rfl ?_
          refine h_iconst (pc' := 46) (x := (Int32.ofInt 5)) rfl rfl rfl ?_
          refine h_call (sp := false) (pc' := 49) (M := [(0, .ref 63), (1, .int (Int32.ofInt 5))]) rfl rfl rfl rfl rfl rfl rfl rfl ?_
          refine h_aload_n (pc' := 1) rfl rfl rfl ?_
          refine h_getI (pc' := 4) (v := sq85 63 2) rfl rfl rfl rfl rfl rfl (fun z120 hz120 => ?_)
          refine h_zne (tg := 30) (pc' := 7) rfl rfl rfl hz120 (fun c121 => ?_) (fun c121 => absurd c121 (by omega))
          clear hz120
          refine h_aload_n (pc' := 31) rfl rfl rfl ?_
          refine h_getI (pc' := 34) (v := sq85 63 2) rfl rfl rfl rfl rfl rfl (fun z122 hz122 => ?_)
          refine h_zne (tg := 60) (pc' := 37) rfl rfl rfl hz122 (fun c123 => ?_) (fun c123 => absurd c123 (by omega))
          clear hz122
          refine h_aload_n (pc' := 61) rfl rfl rfl ?_
          refine h_getR (pc' := 64) rfl rfl rfl rfl rfl ?_
          refine h_getI (pc' := 67) (v := sq85 64 5) rfl rfl rfl rfl rfl rfl (fun z124 hz124 => ?_)
          refine h_istore_n (pc' := 68) (M := [(2, .int z124), (0, .ref 63), (1, .int (Int32.ofInt 5))]) rfl rfl rfl rfl ?_
          refine h_aload_n (pc' := 69) rfl rfl rfl ?_
          refine h_call (sp := false) (pc' := 72) (M := [(0, .ref 63)]) rfl rfl rfl rfl rfl rfl rfl rfl ?_
          refine h_aload_n (pc' := 1) rfl rfl rfl ?_
          refine h_getI (pc' := 4) (v := sq85 63 2) rfl rfl rfl rfl rfl rfl (fun z125 hz125 => ?_)
          refine h_zne (tg := 37) (pc' := 7) rfl rfl rfl hz125 (fun c126 => ?_) (fun c126 => absurd c126 (by omega))
          clear hz125
          refine h_vret rfl rfl (h_Kn ?_)
          refine h_iload_n (pc' := 73) rfl rfl rfl ?_
          refine h_iret rfl rfl (h_Kv ?_)
          refine h_istore_n (pc' := 50) (M := [(3, .int z124), (2, .int z114), (0, .ref 63), (1, .ref 72)]) rfl rfl rfl rfl ?_
          refine h_aload_n (pc' := 51) rfl rfl rfl ?_
          refine h_getI (pc' := 54) (v := sq85 63 2) rfl rfl rfl rfl rfl rfl (fun z127 hz127 => ?_)
          refine h_zne (tg := 64) (pc' := 57) rfl rfl rfl hz127 (fun c128 => ?_) (fun c128 => absurd c128 (by omega))
          clear hz127
          refine h_vret rfl rfl (d_retn hlv21 ?_)
          clear hz114 hz124
          refine h_goto (pc' := 150) rfl rfl ?_
          refine h_aload_n (pc' := 151) rfl rfl rfl ?_
          refine h_getI (pc' := 154) (v := sq85 63 2) rfl rfl rfl rfl rfl rfl (fun z129 hz129 => ?_)
          refine h_zne (tg := 180) (pc' := 157) rfl rfl rfl hz129 (fun c130 => ?_) (fun c130 => absurd c130 (by omega))
          clear hz129
          exact h_wk [(0, .ref 63)] ⟨rfl, trivial⟩ (kx1 _ _ Isq85 Itq85 Fsq85 Ftq85 (by omega) (by omega) (by omega) (by omega) (by omega) (pcq85.elim (fun pcq85 => ⟨by omega, by omega, by omega, by omega⟩) (fun pcq85 => (pcq85.elim (fun pcq85 => (by exfalso; omega)) (fun pcq85 => (pcq85.elim (fun pcq85 => (by exfalso; omega)) (fun pcq85 => (pcq85.elim (fun pcq85 => (by exfalso; omega)) (fun pcq85 => (by exfalso; omega))))))))) _ _ (h_al_ok ⟨rfl, trivial⟩ hlw109) hRw109)
    · clear hz22
      refine h_iconst (pc' := 9) (x := (Int32.ofInt 1)) rfl rfl rfl ?_
      refine h_goto (pc' := 13) rfl rfl ?_
      refine h_zret rfl rfl ci_1 (by omega) (h_Kv ?_)
      refine d_call (g_inj ns) (pc' := 8) (m := 57) (M := [(0, .ref 63), (1, .int (Int32.ofInt 1))]) (rest := []) ⟨false, _, _, _, _, _, _, rfl, rfl, rfl, rfl, rfl, rfl, rfl⟩ (fun lv131 hlv131 => ?_)
      refine h_iload_n (pc' := 1) rfl rfl rfl ?_
      refine h_zeq (tg := 16) (pc' := 4) rfl rfl rfl ci_1 (fun c132 => absurd c132 (by omega)) (fun c132 => ?_)
      refine h_aload_n (pc' := 5) rfl rfl rfl ?_
      refine h_iconst (pc' := 6) (x := (Int32.ofInt 5)) rfl rfl rfl ?_
      refine h_aload_n (pc' := 7) rfl rfl rfl ?_
      refine h_getR (pc' := 10) rfl rfl rfl rfl rfl ?_
      refine h_getI (pc' := 13) (v := σ1 64 4) rfl rfl rfl rfl rfl rfl (fun z133 hz133 => ?_)
      have tz133 := tf_64_4 hI1
      refine h_call (sp := false) (pc' := 16) (M := [(0, .ref 63), (1, .int (Int32.ofInt 5)), (2, .int z133)]) rfl rfl rfl rfl rfl rfl rfl rfl ?_
      refine h_aload_n (pc' := 1) rfl rfl rfl ?_
      refine h_getI (pc' := 4) (v := σ1 63 2) rfl rfl rfl rfl rfl rfl (fun z134 hz134 => ?_)
      have tz134 := tf_63_2 hI1
      refine h_zne (tg := 17) (pc' := 7) rfl rfl rfl hz134 (fun c135 => absurd c135 (by omega)) (fun c135 => ?_)
      clear hz134
      refine h_aload_n (pc' := 8) rfl rfl rfl ?_
      refine h_iload_n (pc' := 9) rfl rfl rfl ?_
      refine h_put (pc' := 12) rfl rfl rfl rfl rfl rfl ci_5 rfl (h_fgt (E := fun s => s 64 2 = σ1 64 2 ∧ s 64 4 = σ1 64 4 ∧ s 64 3 = σ1 64 3 ∧ s 64 5 = σ1 64 5 ∧ s 63 2 = 5 ∧ s 63 3 = σ1 63 3 ∧ s 64 1 = σ1 64 1 ∧ s 66 8 = σ1 66 8 ∧ s 66 9 = σ1 66 9 ∧ s 66 10 = σ1 66 10 ∧ s 69 2 = σ1 69 2 ∧ s 72 2 = σ1 72 2 ∧ s 63 5 = σ1 63 5 ∧ s = h_up σ1 63 2 5) _ (if_63_2 hI1 (by omega)) (F1.up rfl) ⟨rfl, rfl, rfl, rfl, rfl, rfl, rfl, rfl, rfl, rfl, rfl, rfl, rfl, rfl⟩ (fun s136 Is136 Fs136 (es136 : s136 64 2 = σ1 64 2 ∧ s136 64 4 = σ1 64 4 ∧ s136 64 3 = σ1 64 3 ∧ s136 64 5 = σ1 64 5 ∧ s136 63 2 = 5 ∧ s136 63 3 = σ1 63 3 ∧ s136 64 1 = σ1 64 1 ∧ s136 66 8 = σ1 66 8 ∧ s136 66 9 = σ1 66 9 ∧ s136 66 10 = σ1 66 10 ∧ s136 69 2 = σ1 69 2 ∧ s136 72 2 = σ1 72 2 ∧ s136 63 5 = σ1 63 5 ∧ s136 = h_up σ1 63 2 5) => ?_))
      refine h_aload_n (pc' := 13) rfl rfl rfl ?_
      refine h_iload_n (pc' := 14) rfl rfl rfl ?_
      refine h_put (pc' := 17) rfl rfl rfl rfl rfl rfl hz133 rfl (h_fgt (E := fun s => s 64 2 = σ1 64 2 ∧ s 64 4 = σ1 64 4 ∧ s 64 3 = σ1 64 3 ∧ s 64 5 = σ1 64 5 ∧ s 63 2 = 5 ∧ s 63 3 = (σ1 64 4) ∧ s 64 1 = σ1 64 1 ∧ s 66 8 = σ1 66 8 ∧ s 66 9 = σ1 66 9 ∧ s 66 10 = σ1 66 10 ∧ s 69 2 = σ1 69 2 ∧ s 72 2 = σ1 72 2 ∧ s 63 5 = σ1 63 5 ∧ s = h_up s136 63 3 (σ1 64 4)) _ (if_63_3 Is136 (h_rgv hz133)) (Fs136.up rfl) ⟨es136.1, es136.2.1, es136.2.2.1, es136.2.2.2.1, es136.2.2.2.2.1, rfl, es136.2.2.2.2.2.2.1, es136.2.2.2.2.2.2.2.1, es136.2.2.2.2.2.2.2.2.1, es136.2.2.2.2.2.2.2.2.2.1, es136.2.2.2.2.2.2.2.2.2.2.1, es136.2.2.2.2.2.2.2.2.2.2.2.1, es136.2.2.2.2.2.2.2.2.2.2.2.2.1, rfl⟩ (fun s137 Is137 Fs137 (es137 : s137 64 2 = σ1 64 2 ∧ s137 64 4 = σ1 64 4 ∧ s137 64 3 = σ1 64 3 ∧ s137 64 5 = σ1 64 5 ∧ s137 63 2 = 5 ∧ s137 63 3 = (σ1 64 4) ∧ s137 64 1 = σ1 64 1 ∧ s137 66 8 = σ1 66 8 ∧ s137 66 9 = σ1 66 9 ∧ s137 66 10 = σ1 66 10 ∧ s137 69 2 = σ1 69 2 ∧ s137 72 2 = σ1 72 2 ∧ s137 63 5 = σ1 63 5 ∧ s137 = h_up s136 63 3 (σ1 64 4)) => ?_))
      refine h_vret rfl rfl (h_Kn ?_)
      refine h_aload_n (pc' := 17) rfl rfl rfl ?_
      refine h_call (sp := false) (pc' := 20) (M := [(0, .ref 63)]) rfl rfl rfl rfl rfl rfl rfl rfl ?_
      refine h_aload_n (pc' := 1) rfl rfl rfl ?_
      refine h_getI (pc' := 4) (v := 5) rfl rfl rfl rfl rfl es137.2.2.2.2.1 (fun z138 hz138 => ?_)
      refine h_zne (tg := 37) (pc' := 7) rfl rfl rfl hz138 (fun c139 => ?_) (fun c139 => absurd c139 (by omega))
      clear hz138
      refine h_vret rfl rfl (h_Kn ?_)
      refine h_vret rfl rfl (d_retn hlv131 ?_)
      refine h_aload_n (pc' := 9) rfl rfl rfl ?_
      refine h_iconst (pc' := 10) (x := (Int32.ofInt 5)) rfl rfl rfl ?_
      refine h_call (sp := false) (pc' := 13) (M := [(0, .ref 63), (1, .int (Int32.ofInt 5))]) rfl rfl rfl rfl rfl rfl rfl rfl ?_
      refine h_aload_n (pc' := 1) rfl rfl rfl ?_
      refine h_getI (pc' := 4) (v := 5) rfl rfl rfl rfl rfl es137.2.2.2.2.1 (fun z140 hz140 => ?_)
      refine h_zne (tg := 30) (pc' := 7) rfl rfl rfl hz140 (fun c141 => ?_) (fun c141 => absurd c141 (by omega))
      clear hz140
      refine h_aload_n (pc' := 31) rfl rfl rfl ?_
      refine h_getI (pc' := 34) (v := 5) rfl rfl rfl rfl rfl es137.2.2.2.2.1 (fun z142 hz142 => ?_)
      refine h_zne (tg := 60) (pc' := 37) rfl rfl rfl hz142 (fun c143 => ?_) (fun c143 => absurd c143 (by omega))
      clear hz142
      refine h_aload_n (pc' := 61) rfl rfl rfl ?_
      refine h_getR (pc' := 64) rfl rfl rfl rfl rfl ?_
      refine h_getI (pc' := 67) (v := σ1 64 5) rfl rfl rfl rfl rfl es137.2.2.2.1 (fun z144 hz144 => ?_)
      have tz144 := tf_64_5 hI1
      refine h_istore_n (pc' := 68) (M := [(2, .int z144), (0, .ref 63), (1, .int (Int32.ofInt 5))]) rfl rfl rfl rfl ?_
      refine h_aload_n (pc' := 69) rfl rfl rfl ?_
      refine h_call (sp := false) (pc' := 72) (M := [(0, .ref 63)]) rfl rfl rfl rfl rfl rfl rfl rfl ?_
      refine h_aload_n (pc' := 1) rfl rfl rfl ?_
      refine h_getI (pc' := 4) (v := 5) rfl rfl rfl rfl rfl es137.2.2.2.2.1 (fun z145 hz145 => ?_)
      refine h_zne (tg := 37) (pc' := 7) rfl rfl rfl hz145 (fun c146 => ?_) (fun c146 => absurd c146 (by omega))
      clear hz145
      refine h_vret rfl rfl (h_Kn ?_)
      refine h_iload_n (pc' := 73) rfl rfl rfl ?_
      refine h_iret rfl rfl (h_Kv ?_)
      refine h_istore_n (pc' := 14) (M := [(2, .int z144), (0, .ref 63), (1, .ref 72)]) rfl rfl rfl rfl ?_
      refine h_aload_n (pc' := 15) rfl rfl rfl ?_
      refine h_call (sp := false) (pc' := 18) (M := [(0, .ref 63)]) rfl rfl rfl rfl rfl rfl rfl rfl ?_
      refine h_aload_n (pc' := 1) rfl rfl rfl ?_
      refine h_getI (pc' := 4) (v := 5) rfl rfl rfl rfl rfl es137.2.2.2.2.1 (fun z147 hz147 => ?_)
      refine h_zne (tg := 22) (pc' := 7) rfl rfl rfl hz147 (fun c148 => ?_) (fun c148 => absurd c148 (by omega))
      clear hz147
      refine h_iconst (pc' := 23) (x := (Int32.ofInt 0)) rfl rfl rfl ?_
      refine h_zret rfl rfl ci_0 (by omega) (h_Kv ?_)
      refine h_zeq (tg := 44) (pc' := 21) rfl rfl rfl ci_0 (fun c149 => ?_) (fun c149 => absurd c149 (by omega))
      refine h_aload_n (pc' := 45) rfl rfl rfl ?_
      refine h_iconst (pc' := 46) (x := (Int32.ofInt 5)) rfl rfl rfl ?_
      refine h_call (sp := false) (pc' := 49) (M := [(0, .ref 63), (1, .int (Int32.ofInt 5))]) rfl rfl rfl rfl rfl rfl rfl rfl ?_
      refine h_aload_n (pc' := 1) rfl rfl rfl ?_
      refine h_getI (pc' := 4) (v := 5) rfl rfl rfl rfl rfl es137.2.2.2.2.1 (fun z150 hz150 => ?_)
      refine h_zne (tg := 30) (pc' := 7) rfl rfl rfl hz150 (fun c151 => ?_) (fun c151 => absurd c151 (by omega))
      clear hz150
      refine h_aload_n (pc' := 31) rfl rfl rfl ?_
      refine h_getI (pc' := 34) (v := 5) rfl rfl rfl rfl rfl es137.2.2.2.2.1 (fun z152 hz152 => ?_)
      refine h_zne (tg := 60) (pc' := 37) rfl rfl rfl hz152 (fun c153 => ?_) (fun c153 => absurd c153 (by omega))
      clear hz152
      refine h_aload_n (pc' := 61) rfl rfl rfl ?_
      refine h_getR (pc' := 64) rfl rfl rfl rfl rfl ?_
      refine h_getI (pc' := 67) (v := σ1 64 5) rfl rfl rfl rfl rfl es137.2.2.2.1 (fun z154 hz154 => ?_)
      refine h_istore_n (pc' := 68) (M := [(2, .int z154), (0, .ref 63), (1, .int (Int32.ofInt 5))]) rfl rfl rfl rfl ?_
      refine h_aload_n (pc' := 69) rfl rfl rfl ?_
      refine h_call (sp := false) (pc' := 72) (M := [(0, .ref 63)]) rfl rfl rfl rfl rfl rfl rfl rfl ?_
      refine h_aload_n (pc' := 1) rfl rfl rfl ?_
      refine h_getI (pc' := 4) (v := 5) rfl rfl rfl rfl rfl es137.2.2.2.2.1 (fun z155 hz155 => ?_)
      refine h_zne (tg := 37) (pc' := 7) rfl rfl rfl hz155 (fun c156 => ?_) (fun c156 => absurd c156 (by omega))
      clear hz155
      refine h_vret rfl rfl (h_Kn ?_)
      refine h_iload_n (pc' := 73) rfl rfl rfl ?_
      refine h_iret rfl rfl (h_Kv ?_)
      refine h_istore_n (pc' := 50) (M := [(3, .int z154), (2, .int z144), (0, .ref 63), (1, .ref 72)]) rfl rfl rfl rfl ?_
      refine h_aload_n (pc' := 51) rfl rfl rfl ?_
      refine h_getI (pc' := 54) (v := 5) rfl rfl rfl rfl rfl es137.2.2.2.2.1 (fun z157 hz157 => ?_)
      refine h_zne (tg := 64) (pc' := 57) rfl rfl rfl hz157 (fun c158 => ?_) (fun c158 => absurd c158 (by omega))
      clear hz157
      refine h_vret rfl rfl (d_retn hlv21 ?_)
      clear hz144 hz154
      refine h_goto (pc' := 150) rfl rfl ?_
      refine h_aload_n (pc' := 151) rfl rfl rfl ?_
      refine h_getI (pc' := 154) (v := 5) rfl rfl rfl rfl rfl es137.2.2.2.2.1 (fun z159 hz159 => ?_)
      refine h_zne (tg := 180) (pc' := 157) rfl rfl rfl hz159 (fun c160 => ?_) (fun c160 => absurd c160 (by omega))
      clear hz159
      refine d_toM (g_inj ns) hl2 hR2 (fun lvw161 memw161 hlw161 hRw161 => ?_)
      show h_T g_P (g_Y ns) 154 23 [(0, .ref 98), (1, .int y1)] [] σ2 _
      refine h_iload_n (pc' := 24) rfl rfl rfl ?_
      refine h_iconst (pc' := 25) (x := (Int32.ofInt 3)) rfl rfl rfl ?_
      refine h_cgt (tg := 37) (pc' := 28) rfl rfl rfl hy1 ci_3 (fun c162 => ?_) (fun c162 => absurd c162 (by omega))
      refine h_iload_n (pc' := 38) rfl rfl rfl ?_
      refine h_iconst (pc' := 39) (x := (Int32.ofInt 4)) rfl rfl rfl ?_
      refine h_cne (tg := 53) (pc' := 42) rfl rfl rfl hy1 ci_4 (fun c163 => ?_) (fun c163 => absurd c163 (by omega))
      refine h_iload_n (pc' := 54) rfl rfl rfl ?_
      refine h_iconst (pc' := 55) (x := (Int32.ofInt 5)) rfl rfl rfl ?_
      refine h_cne (tg := 69) (pc' := 58) rfl rfl rfl hy1 ci_5 (fun c164 => absurd c164 (by omega)) (fun c164 => ?_)
      refine h_aload_n (pc' := 59) rfl rfl rfl ?_
      refine h_getR (pc' := 62) rfl rfl rfl rfl rfl ?_
      refine h_bipush (pc' := 64) (x := (Int32.ofInt 25)) rfl rfl cb_25 ?_
      refine h_iald (pc' := 65) (v := σ2 101 25) rfl rfl rfl ci_25 (by omega) (by omega) rfl (fun z165 hz165 => ?_)
      have tz165 := ty_101_5 hI2 25 (by omega)
      refine h_iconst (pc' := 66) (x := (Int32.ofInt 3)) rfl rfl rfl ?_
      refine h_ceq (tg := 83) (pc' := 69) rfl rfl rfl hz165 ci_3 (fun c166 => ?_) (fun c166 => absurd c166 (by omega))
      clear hz165
      refine h_aload_n (pc' := 84) rfl rfl rfl ?_
      refine h_iconst (pc' := 85) (x := (Int32.ofInt 5)) rfl rfl rfl ?_
      refine h_call (sp := false) (pc' := 88) (M := [(0, .ref 98), (1, .int (Int32.ofInt 5))]) rfl rfl rfl rfl rfl rfl rfl rfl ?_
      refine h_aload_n (pc' := 1) rfl rfl rfl ?_
      refine h_getI (pc' := 4) (v := σ2 98 13) rfl rfl rfl rfl rfl rfl (fun z167 hz167 => ?_)
      have tz167 := tf_98_13 hI2
      refine h_zne (tg := 20) (pc' := 7) rfl rfl rfl hz167 (fun c168 => absurd c168 (by omega)) (fun c168 => ?_)
      clear hz167
      refine h_aload_n (pc' := 8) rfl rfl rfl ?_
      refine h_iload_n (pc' := 9) rfl rfl rfl ?_
      refine h_put (pc' := 12) rfl rfl rfl rfl rfl rfl ci_5 rfl (h_fgt (E := fun s => s 98 15 = σ2 98 15 ∧ s 98 16 = σ2 98 16 ∧ s 98 17 = σ2 98 17 ∧ s 98 18 = σ2 98 18 ∧ s 98 13 = 5 ∧ s 98 14 = σ2 98 14 ∧ s 98 5 = σ2 98 5 ∧ s 98 6 = σ2 98 6 ∧ s 98 7 = σ2 98 7 ∧ s 98 8 = σ2 98 8 ∧ s 98 9 = σ2 98 9 ∧ s 101 18 = σ2 101 18 ∧ s 101 25 = σ2 101 25 ∧ s 101 43 = σ2 101 43 ∧ s = h_up σ2 98 13 5) _ (if_98_13 hI2 (by omega)) (F2.up rfl) ⟨rfl, rfl, rfl, rfl, rfl, rfl, rfl, rfl, rfl, rfl, rfl, rfl, rfl, rfl, rfl⟩ (fun s169 Is169 Fs169 (es169 : s169 98 15 = σ2 98 15 ∧ s169 98 16 = σ2 98 16 ∧ s169 98 17 = σ2 98 17 ∧ s169 98 18 = σ2 98 18 ∧ s169 98 13 = 5 ∧ s169 98 14 = σ2 98 14 ∧ s169 98 5 = σ2 98 5 ∧ s169 98 6 = σ2 98 6 ∧ s169 98 7 = σ2 98 7 ∧ s169 98 8 = σ2 98 8 ∧ s169 98 9 = σ2 98 9 ∧ s169 101 18 = σ2 101 18 ∧ s169 101 25 = σ2 101 25 ∧ s169 101 43 = σ2 101 43 ∧ s169 = h_up σ2 98 13 5) => ?_))
      refine h_aload_n (pc' := 13) rfl rfl rfl ?_
      refine h_aload_n (pc' := 14) rfl rfl rfl ?_
      refine h_getI (pc' := 17) (v := σ2 98 16) rfl rfl rfl rfl rfl es169.2.1 (fun z170 hz170 => ?_)
      have tz170 := tf_98_16 hI2
      refine h_put (pc' := 20) rfl rfl rfl rfl rfl rfl hz170 rfl (h_fgt (E := fun s => s 98 15 = σ2 98 15 ∧ s 98 16 = σ2 98 16 ∧ s 98 17 = σ2 98 17 ∧ s 98 18 = σ2 98 18 ∧ s 98 13 = 5 ∧ s 98 14 = (σ2 98 16) ∧ s 98 5 = σ2 98 5 ∧ s 98 6 = σ2 98 6 ∧ s 98 7 = σ2 98 7 ∧ s 98 8 = σ2 98 8 ∧ s 98 9 = σ2 98 9 ∧ s 101 18 = σ2 101 18 ∧ s 101 25 = σ2 101 25 ∧ s 101 43 = σ2 101 43 ∧ s = h_up s169 98 14 (σ2 98 16)) _ (if_98_14 Is169 (h_rgv hz170)) (Fs169.up rfl) ⟨es169.1, es169.2.1, es169.2.2.1, es169.2.2.2.1, es169.2.2.2.2.1, rfl, es169.2.2.2.2.2.2.1, es169.2.2.2.2.2.2.2.1, es169.2.2.2.2.2.2.2.2.1, es169.2.2.2.2.2.2.2.2.2.1, es169.2.2.2.2.2.2.2.2.2.2.1, es169.2.2.2.2.2.2.2.2.2.2.2.1, es169.2.2.2.2.2.2.2.2.2.2.2.2.1, es169.2.2.2.2.2.2.2.2.2.2.2.2.2.1, rfl⟩ (fun s171 Is171 Fs171 (es171 : s171 98 15 = σ2 98 15 ∧ s171 98 16 = σ2 98 16 ∧ s171 98 17 = σ2 98 17 ∧ s171 98 18 = σ2 98 18 ∧ s171 98 13 = 5 ∧ s171 98 14 = (σ2 98 16) ∧ s171 98 5 = σ2 98 5 ∧ s171 98 6 = σ2 98 6 ∧ s171 98 7 = σ2 98 7 ∧ s171 98 8 = σ2 98 8 ∧ s171 98 9 = σ2 98 9 ∧ s171 101 18 = σ2 101 18 ∧ s171 101 25 = σ2 101 25 ∧ s171 101 43 = σ2 101 43 ∧ s171 = h_up s169 98 14 (σ2 98 16)) => ?_))
      refine h_vret rfl rfl (h_Kn ?_)
      refine h_iload_n (pc' := 89) rfl rfl rfl ?_
      refine h_bipush (pc' := 91) (x := (Int32.ofInt 7)) rfl rfl cb_7 ?_
      refine h_cne (tg := 106) (pc' := 94) rfl rfl rfl hy1 ci_7 (fun c172 => ?_) (fun c172 => absurd c172 (by omega))
      refine h_aload_n (pc' := 107) rfl rfl rfl ?_
      refine h_aload_n (pc' := 108) rfl rfl rfl ?_
      refine h_getI (pc' := 111) (v := σ2 98 7) rfl rfl rfl rfl rfl es171.2.2.2.2.2.2.2.2.1 (fun z173 hz173 => ?_)
      have tz173 := tf_98_7 hI2
      refine h_zne (tg := 120) (pc' := 114) rfl rfl rfl hz173 (fun c174 => ?_) (fun c174 => ?_)
      · clear hz173
        refine h_iconst (pc' := 121) (x := (Int32.ofInt 1)) rfl rfl rfl ?_
        refine h_goto (pc' := 125) rfl rfl ?_
        refine h_put (pc' := 128) rfl rfl rfl rfl rfl rfl ci_1 (h_fb ci_1 (by omega)) (h_fgt (E := fun s => s 98 15 = σ2 98 15 ∧ s 98 16 = σ2 98 16 ∧ s 98 17 = σ2 98 17 ∧ s 98 18 = σ2 98 18 ∧ s 98 13 = 5 ∧ s 98 14 = (σ2 98 16) ∧ s 98 5 = σ2 98 5 ∧ s 98 6 = σ2 98 6 ∧ s 98 7 = 1 ∧ s 98 8 = σ2 98 8 ∧ s 98 9 = σ2 98 9 ∧ s 101 18 = σ2 101 18 ∧ s 101 25 = σ2 101 25 ∧ s 101 43 = σ2 101 43 ∧ s = h_up s171 98 7 1) _ (if_98_7 Is171 (by omega)) (Fs171.up rfl) ⟨es171.1, es171.2.1, es171.2.2.1, es171.2.2.2.1, es171.2.2.2.2.1, es171.2.2.2.2.2.1, es171.2.2.2.2.2.2.1, es171.2.2.2.2.2.2.2.1, rfl, es171.2.2.2.2.2.2.2.2.2.1, es171.2.2.2.2.2.2.2.2.2.2.1, es171.2.2.2.2.2.2.2.2.2.2.2.1, es171.2.2.2.2.2.2.2.2.2.2.2.2.1, es171.2.2.2.2.2.2.2.2.2.2.2.2.2.1, rfl⟩ (fun s175 Is175 Fs175 (es175 : s175 98 15 = σ2 98 15 ∧ s175 98 16 = σ2 98 16 ∧ s175 98 17 = σ2 98 17 ∧ s175 98 18 = σ2 98 18 ∧ s175 98 13 = 5 ∧ s175 98 14 = (σ2 98 16) ∧ s175 98 5 = σ2 98 5 ∧ s175 98 6 = σ2 98 6 ∧ s175 98 7 = 1 ∧ s175 98 8 = σ2 98 8 ∧ s175 98 9 = σ2 98 9 ∧ s175 101 18 = σ2 101 18 ∧ s175 101 25 = σ2 101 25 ∧ s175 101 43 = σ2 101 43 ∧ s175 = h_up s171 98 7 1) => ?_))
        refine h_aload_n (pc' := 129) rfl rfl rfl ?_
        refine h_call (sp := false) (pc' := 132) (M := [(0, .ref 98)]) rfl rfl rfl rfl rfl rfl rfl rfl ?_
        refine h_aload_n (pc' := 1) rfl rfl rfl ?_
        refine h_getI (pc' := 4) (v := 5) rfl rfl rfl rfl rfl es175.2.2.2.2.1 (fun z176 hz176 => ?_)
        refine h_zle (tg := 8) (pc' := 7) rfl rfl rfl hz176 (fun c177 => absurd c177 (by omega)) (fun c177 => ?_)
        clear hz176
        refine h_vret rfl rfl (h_Kn ?_)
        refine h_aload_n (pc' := 133) rfl rfl rfl ?_
        refine h_getI (pc' := 136) (v := 5) rfl rfl rfl rfl rfl es175.2.2.2.2.1 (fun z178 hz178 => ?_)
        refine h_zle (tg := 140) (pc' := 139) rfl rfl rfl hz178 (fun c179 => absurd c179 (by omega)) (fun c179 => ?_)
        clear hz178
        refine d_toL (g_inj ns) hlw161 hRw161 (fun lvw180 memw180 hlw180 hRw180 => ?_)
        show h_T g_P (g_Y ns) 56 180 [(0, .ref 63), (1, .int x1)] [] s137 _
        exact h_wk [(0, .ref 63)] ⟨rfl, trivial⟩ (kx1 _ _ Is137 Is175 Fs137 Fs175 (by omega) (by omega) (by omega) (by omega) (by omega) ⟨by omega, by omega, by omega, by omega⟩ _ _ (h_al_ok ⟨rfl, trivial⟩ hlw180) hRw180)
      · clear hz173
        refine h_iload_n (pc' := 115) rfl rfl rfl ?_
        refine h_bipush (pc' := 117) (x := (Int32.ofInt 7)) rfl rfl cb_7 ?_
        refine h_cne (tg := 124) (pc' := 120) rfl rfl rfl hy1 ci_7 (fun c181 => ?_) (fun c181 => absurd c181 (by omega))
        refine h_iconst (pc' := 125) (x := (Int32.ofInt 0)) rfl rfl rfl ?_
        refine h_put (pc' := 128) rfl rfl rfl rfl rfl rfl ci_0 (h_fb ci_0 (by omega)) (h_fgt (E := fun s => s 98 15 = σ2 98 15 ∧ s 98 16 = σ2 98 16 ∧ s 98 17 = σ2 98 17 ∧ s 98 18 = σ2 98 18 ∧ s 98 13 = 5 ∧ s 98 14 = (σ2 98 16) ∧ s 98 5 = σ2 98 5 ∧ s 98 6 = σ2 98 6 ∧ s 98 7 = 0 ∧ s 98 8 = σ2 98 8 ∧ s 98 9 = σ2 98 9 ∧ s 101 18 = σ2 101 18 ∧ s 101 25 = σ2 101 25 ∧ s 101 43 = σ2 101 43 ∧ s = h_up s171 98 7 0) _ (if_98_7 Is171 (by omega)) (Fs171.up rfl) ⟨es171.1, es171.2.1, es171.2.2.1, es171.2.2.2.1, es171.2.2.2.2.1, es171.2.2.2.2.2.1, es171.2.2.2.2.2.2.1, es171.2.2.2.2.2.2.2.1, rfl, es171.2.2.2.2.2.2.2.2.2.1, es171.2.2.2.2.2.2.2.2.2.2.1, es171.2.2.2.2.2.2.2.2.2.2.2.1, es171.2.2.2.2.2.2.2.2.2.2.2.2.1, es171.2.2.2.2.2.2.2.2.2.2.2.2.2.1, rfl⟩ (fun s182 Is182 Fs182 (es182 : s182 98 15 = σ2 98 15 ∧ s182 98 16 = σ2 98 16 ∧ s182 98 17 = σ2 98 17 ∧ s182 98 18 = σ2 98 18 ∧ s182 98 13 = 5 ∧ s182 98 14 = (σ2 98 16) ∧ s182 98 5 = σ2 98 5 ∧ s182 98 6 = σ2 98 6 ∧ s182 98 7 = 0 ∧ s182 98 8 = σ2 98 8 ∧ s182 98 9 = σ2 98 9 ∧ s182 101 18 = σ2 101 18 ∧ s182 101 25 = σ2 101 25 ∧ s182 101 43 = σ2 101 43 ∧ s182 = h_up s171 98 7 0) => ?_))
        refine h_aload_n (pc' := 129) rfl rfl rfl ?_
        refine h_call (sp := false) (pc' := 132) (M := [(0, .ref 98)]) rfl rfl rfl rfl rfl rfl rfl rfl ?_
        refine h_aload_n (pc' := 1) rfl rfl rfl ?_
        refine h_getI (pc' := 4) (v := 5) rfl rfl rfl rfl rfl es182.2.2.2.2.1 (fun z183 hz183 => ?_)
        refine h_zle (tg := 8) (pc' := 7) rfl rfl rfl hz183 (fun c184 => absurd c184 (by omega)) (fun c184 => ?_)
        clear hz183
        refine h_vret rfl rfl (h_Kn ?_)
        refine h_aload_n (pc' := 133) rfl rfl rfl ?_
        refine h_getI (pc' := 136) (v := 5) rfl rfl rfl rfl rfl es182.2.2.2.2.1 (fun z185 hz185 => ?_)
        refine h_zle (tg := 140) (pc' := 139) rfl rfl rfl hz185 (fun c186 => absurd c186 (by omega)) (fun c186 => ?_)
        clear hz185
        refine d_toL (g_inj ns) hlw161 hRw161 (fun lvw187 memw187 hlw187 hRw187 => ?_)
        show h_T g_P (g_Y ns) 56 180 [(0, .ref 63), (1, .int x1)] [] s137 _
        exact h_wk [(0, .ref 63)] ⟨rfl, trivial⟩ (kx1 _ _ Is137 Is182 Fs137 Fs182 (by omega) (by omega) (by omega) (by omega) (by omega) ⟨by omega, by omega, by omega, by omega⟩ _ _ (h_al_ok ⟨rfl, trivial⟩ hlw187) hRw187)
