set_option maxHeartbeats 100000000 in
theorem ls_feu_c {ns : Nat} {σ1 σ2 : h_S} (hI1 : h_I σ1) (hI2 : h_I σ2) (hTL : d_tape σ1 σ2) (x2 : Int32) (a2 : Int) (hx2 : x2.toInt = a2) (y2 : Int32) (c2 : Int) (hy2 : y2.toInt = c2) (y3 : Int32) (c3 : Int) (hy3 : y3.toInt = c3) (H0 : Int) (pr0 : σ1 64 2 = σ2 98 15) (pr1 : σ1 64 4 = σ2 98 16) (pr2 : σ1 63 2 = σ2 98 13) (pr3 : σ1 66 8 = σ2 98 5) (pr4 : σ1 66 9 = σ2 98 6) (pr5 : σ1 66 10 = σ2 101 43) (pr6 : σ1 69 2 = σ2 101 18) (pr7 : σ1 72 2 = σ2 101 25) (pr8 : σ1 63 5 = σ2 98 7) (pr9 : σ1 64 2 ≤ σ1 64 1) (pr10 : d_RH σ1 σ2 H0) (pr11 : a2 = c3) (pr12 : 0 ≤ a2 ∧ a2 ≤ 5) (pr13 : c2 = σ2 101 25) (pr14 : H0 ≤ σ2 98 8) (pr15 : c3 ≤ σ2 98 8) (pr16 : σ2 98 8 = H0 ∨ σ2 98 8 = c3) (pc0 : ((σ1 63 2 = 0) ∧ (σ1 64 3 = 0) ∧ (0 ≤ σ1 72 2 ∧ σ1 72 2 ≤ 2) ∧ (σ2 98 13 = 0) ∧ (σ2 98 17 = 0) ∧ (0 ≤ σ2 101 25 ∧ σ2 101 25 ≤ 2) ∧ (σ1 64 4 = σ1 64 1)) ∨ ((σ1 63 2 = 0) ∧ (σ1 64 3 = 1) ∧ (0 ≤ σ1 72 2 ∧ σ1 72 2 ≤ 2) ∧ (σ2 98 13 = 0) ∧ (σ2 98 17 = 1) ∧ (0 ≤ σ2 101 25 ∧ σ2 101 25 ≤ 2) ∧ (σ1 64 4 < σ1 64 2)) ∨ ((σ1 63 2 = 0) ∧ (σ1 64 3 = 2) ∧ (0 ≤ σ1 72 2 ∧ σ1 72 2 ≤ 2) ∧ (σ2 98 13 = 0) ∧ (σ2 98 17 = 2) ∧ (0 ≤ σ2 101 25 ∧ σ2 101 25 ≤ 2) ∧ (0 ≤ σ1 64 5 ∧ σ1 64 5 ≤ 99) ∧ (0 ≤ σ2 98 18 ∧ σ2 98 18 ≤ 99) ∧ (σ1 64 5 = σ2 98 18) ∧ (σ1 64 4 < σ1 64 2)) ∨ ((σ1 63 2 = 0) ∧ (σ1 64 3 = 3) ∧ (0 ≤ σ1 72 2 ∧ σ1 72 2 ≤ 2) ∧ (σ2 98 13 = 0) ∧ (σ2 98 17 = 3) ∧ (0 ≤ σ2 101 25 ∧ σ2 101 25 ≤ 2) ∧ (σ1 64 4 < σ1 64 2))) {cs1 cs2 : List d_Fr} {Q : d_Q} (kx0 : ∀ (s t : h_S), h_I s → h_I t → h_F (k_in k_pl) s σ1 → h_F (k_in k_pm) t σ2 → (s 64 2 = t 98 15) → (s 64 4 = t 98 16) → (s 63 2 = t 98 13) → (s 64 2 ≤ s 64 1) → (σ1 64 2 ≤ s 64 2) → (d_ok s t) → (((1 ≤ s 63 2 ∧ s 63 2 ≤ 6) ∧ (1 ≤ t 98 13 ∧ t 98 13 ≤ 6) ∧ (s 63 2 = t 98 13) ∧ (s 63 3 = t 98 14)) ∨ ((s 63 2 = 0) ∧ (s 64 3 = 0) ∧ (t 98 13 = 0) ∧ (t 98 17 = 0) ∧ (s 64 4 = s 64 1) ∧ ((s 64 2 = σ1 64 2 ∧ s 64 3 = σ1 64 3) ∨ σ1 64 2 < s 64 2)) ∨ ((s 63 2 = 0) ∧ (s 64 3 = 1) ∧ (t 98 13 = 0) ∧ (t 98 17 = 1) ∧ (s 64 4 < s 64 2) ∧ ((s 64 2 = σ1 64 2 ∧ s 64 3 = σ1 64 3) ∨ σ1 64 2 < s 64 2)) ∨ ((s 63 2 = 0) ∧ (s 64 3 = 2) ∧ (t 98 13 = 0) ∧ (t 98 17 = 2) ∧ (0 ≤ s 64 5 ∧ s 64 5 ≤ 99) ∧ (0 ≤ t 98 18 ∧ t 98 18 ≤ 99) ∧ (s 64 5 = t 98 18) ∧ (s 64 4 < s 64 2) ∧ ((s 64 2 = σ1 64 2 ∧ s 64 3 = σ1 64 3) ∨ σ1 64 2 < s 64 2)) ∨ ((s 63 2 = 0) ∧ (s 64 3 = 3) ∧ (t 98 13 = 0) ∧ (t 98 17 = 3) ∧ (s 64 4 < s 64 2) ∧ ((s 64 2 = σ1 64 2 ∧ s 64 3 = σ1 64 3) ∨ σ1 64 2 < s 64 2))) → ∀ lv2 mem2, h_loc [(0, .ref 98)] lv2 → h_R (g_Y ns) t mem2 → h_T g_P (g_Y ns) 60 64 [(0, .ref 63)] [] s (d_cs g_P (g_Y ns) cs1 (d_L g_P (g_Y ns) (151, 73, lv2, []) cs2 mem2 Q))) : ∀ lv2 mem2, h_loc [(0, .ref 98), (1, .int (Int32.ofInt 19)), (2, .int y2), (3, .int y3)] lv2 → h_R (g_Y ns) σ2 mem2 → h_T g_P (g_Y ns) 60 14 [(0, .ref 63), (1, .ref 72), (2, .int x2)] [] σ1 (d_cs g_P (g_Y ns) cs1 (d_L g_P (g_Y ns) (151, 5, lv2, []) cs2 mem2 Q)) := by
  intro lv2 mem2 hl2 hR2
  have hT := hTL.1
  have hL := hTL.2
  have F1 : h_F (k_in k_pl) σ1 σ1 := h_F.rf
  have F2 : h_F (k_in k_pm) σ2 σ2 := h_F.rf
  have ge0 := tf_64_1 hI1
  have ge1 := tf_66_8 hI1
  have ge2 := tf_66_9 hI1
  have ge3 := tf_66_10 hI1
  have ge4 := tf_69_2 hI1
  have ge5 := tf_72_2 hI1
  have ge6 := tf_63_5 hI1
  have ge7 := tf_63_2 hI1
  have ge8 := tf_98_8 hI2
  have ge9 := tf_98_9 hI2
  have ge10 := tf_98_13 hI2
  rcases pc0 with pc0 | pc0 | pc0 | pc0
  · show h_T g_P (g_Y ns) 60 14 [(0, .ref 63), (1, .ref 72), (2, .int x2)] [] σ1 _
    refine h_aload_n (pc' := 15) rfl rfl rfl ?_
    refine h_call (sp := false) (pc' := 18) (M := [(0, .ref 63)]) rfl rfl rfl rfl rfl rfl rfl rfl ?_
    refine h_aload_n (pc' := 1) rfl rfl rfl ?_
    refine h_getI (pc' := 4) (v := σ1 63 2) rfl rfl rfl rfl rfl rfl (fun z1 hz1 => ?_)
    have tz1 := tf_63_2 hI1
    refine h_zne (tg := 22) (pc' := 7) rfl rfl rfl hz1 (fun c2 => absurd c2 (by omega)) (fun c2 => ?_)
    clear hz1
    refine h_aload_n (pc' := 8) rfl rfl rfl ?_
    refine h_getR (pc' := 11) rfl rfl rfl rfl rfl ?_
    refine h_getI (pc' := 14) (v := σ1 64 3) rfl rfl rfl rfl rfl rfl (fun z3 hz3 => ?_)
    have tz3 := tf_64_3 hI1
    refine h_iconst (pc' := 15) (x := (Int32.ofInt 2)) rfl rfl rfl ?_
    refine h_cne (tg := 22) (pc' := 18) rfl rfl rfl hz3 ci_2 (fun c4 => ?_) (fun c4 => absurd c4 (by omega))
    clear hz3
    refine h_iconst (pc' := 23) (x := (Int32.ofInt 0)) rfl rfl rfl ?_
    refine h_zret rfl rfl ci_0 (by omega) (h_Kv ?_)
    refine h_zeq (tg := 44) (pc' := 21) rfl rfl rfl ci_0 (fun c5 => ?_) (fun c5 => absurd c5 (by omega))
    refine h_aload_n (pc' := 45) rfl rfl rfl ?_
    refine h_iconst (pc' := 46) (x := (Int32.ofInt 5)) rfl rfl rfl ?_
    refine d_toM (g_inj ns) hl2 hR2 (fun lvw6 memw6 hlw6 hRw6 => ?_)
    show h_T g_P (g_Y ns) 151 5 [(0, .ref 98), (1, .int (Int32.ofInt 19)), (2, .int y2), (3, .int y3)] [] σ2 _
    refine h_aload_n (pc' := 6) rfl rfl rfl ?_
    refine h_getI (pc' := 9) (v := σ2 98 13) rfl rfl rfl rfl rfl rfl (fun z7 hz7 => ?_)
    have tz7 := tf_98_13 hI2
    refine h_zne (tg := 33) (pc' := 12) rfl rfl rfl hz7 (fun c8 => absurd c8 (by omega)) (fun c8 => ?_)
    clear hz7
    refine h_aload_n (pc' := 13) rfl rfl rfl ?_
    refine h_getI (pc' := 16) (v := σ2 98 17) rfl rfl rfl rfl rfl rfl (fun z9 hz9 => ?_)
    have tz9 := tf_98_17 hI2
    refine h_iconst (pc' := 17) (x := (Int32.ofInt 2)) rfl rfl rfl ?_
    refine h_cne (tg := 33) (pc' := 20) rfl rfl rfl hz9 ci_2 (fun c10 => ?_) (fun c10 => absurd c10 (by omega))
    clear hz9
    refine h_aload_n (pc' := 34) rfl rfl rfl ?_
    refine h_getR (pc' := 37) rfl rfl rfl rfl rfl ?_
    refine h_iload_n (pc' := 38) rfl rfl rfl ?_
    refine h_iconst (pc' := 39) (x := (Int32.ofInt 2)) rfl rfl rfl ?_
    refine h_iload_n (pc' := 40) rfl rfl rfl ?_
    refine h_imul (pc' := 41) rfl rfl ci_2 hy2 rfl (by omega) (by omega) (fun z11 hz11 => ?_)
    refine h_iadd (pc' := 42) rfl rfl ci_19 hz11 rfl (by omega) (by omega) (fun z12 hz12 => ?_)
    clear hz11
    refine h_iload_n (pc' := 43) rfl rfl rfl ?_
    refine h_iast (pc' := 44) rfl rfl rfl rfl hz12 (by omega) (by omega) hy3 (h_fgt (E := fun s => s 98 15 = σ2 98 15 ∧ s 98 16 = σ2 98 16 ∧ s 98 17 = σ2 98 17 ∧ s 98 18 = σ2 98 18 ∧ s 98 13 = σ2 98 13 ∧ s 98 14 = σ2 98 14 ∧ s 98 5 = σ2 98 5 ∧ s 98 6 = σ2 98 6 ∧ s 98 7 = σ2 98 7 ∧ s 98 8 = σ2 98 8 ∧ s 98 9 = σ2 98 9 ∧ s 101 18 = σ2 101 18 ∧ s 101 25 = σ2 101 25 ∧ s 101 43 = σ2 101 43 ∧ s = h_up σ2 101 (19 + (2 * c2)) c3) _ (ip_101_4 hI2 (by omega) (by omega)) (F2.up rfl) ⟨rfl, rfl, rfl, rfl, rfl, rfl, rfl, rfl, rfl, rfl, rfl, h_up_n2 (by omega) rfl, h_up_n2 (by omega) rfl, h_up_n2 (by omega) rfl, rfl⟩ (fun s13 Is13 Fs13 (es13 : s13 98 15 = σ2 98 15 ∧ s13 98 16 = σ2 98 16 ∧ s13 98 17 = σ2 98 17 ∧ s13 98 18 = σ2 98 18 ∧ s13 98 13 = σ2 98 13 ∧ s13 98 14 = σ2 98 14 ∧ s13 98 5 = σ2 98 5 ∧ s13 98 6 = σ2 98 6 ∧ s13 98 7 = σ2 98 7 ∧ s13 98 8 = σ2 98 8 ∧ s13 98 9 = σ2 98 9 ∧ s13 101 18 = σ2 101 18 ∧ s13 101 25 = σ2 101 25 ∧ s13 101 43 = σ2 101 43 ∧ s13 = h_up σ2 101 (19 + (2 * c2)) c3) => ?_))
    clear hz12
    refine h_aload_n (pc' := 45) rfl rfl rfl ?_
    refine h_getR (pc' := 48) rfl rfl rfl rfl rfl ?_
    refine h_iload_n (pc' := 49) rfl rfl rfl ?_
    refine h_iconst (pc' := 50) (x := (Int32.ofInt 2)) rfl rfl rfl ?_
    refine h_iload_n (pc' := 51) rfl rfl rfl ?_
    refine h_imul (pc' := 52) rfl rfl ci_2 hy2 rfl (by omega) (by omega) (fun z14 hz14 => ?_)
    refine h_iadd (pc' := 53) rfl rfl ci_19 hz14 rfl (by omega) (by omega) (fun z15 hz15 => ?_)
    clear hz14
    refine h_iconst (pc' := 54) (x := (Int32.ofInt 1)) rfl rfl rfl ?_
    refine h_iadd (pc' := 55) rfl rfl hz15 ci_1 rfl (by omega) (by omega) (fun z16 hz16 => ?_)
    clear hz15
    refine h_aload_n (pc' := 56) rfl rfl rfl ?_
    refine d_call (g_inj ns) (pc' := 59) (m := 150) (M := [(0, .ref 98)]) (rest := [.int z16, .ref 101]) ⟨false, _, _, _, _, _, _, rfl, rfl, rfl, rfl, rfl, rfl, rfl⟩ (fun lv17 hlv17 => ?_)
    refine h_aload_n (pc' := 1) rfl rfl rfl ?_
    refine h_iconst (pc' := 2) (x := (Int32.ofInt 0)) rfl rfl rfl ?_
    refine h_iconst (pc' := 3) (x := (Int32.ofInt 5)) rfl rfl rfl ?_
    refine d_pcall (g_inj ns) (m1 := 58) (pc1' := 49) (M1 := [(0, .ref 63), (1, .int (Int32.ofInt 5))]) (rest1 := []) (m2 := 149) (pc2' := 6) (M2 := [(0, .ref 98), (1, .int (Int32.ofInt 0)), (2, .int (Int32.ofInt 5))]) (rest2 := []) ⟨false, _, _, _, _, _, _, rfl, rfl, rfl, rfl, rfl, rfl, rfl⟩ ⟨false, _, _, _, _, _, _, rfl, rfl, rfl, rfl, rfl, rfl, rfl⟩ hRw6 ?_
    refine pp_num hI1 Is13 (hTL.fr (F1.mono rfl) (Fs13.mono rfl)) (Int32.ofInt 5) _ ci_5 (Int32.ofInt 5) _ ci_5 (by omega) (by omega) (by omega) (by omega) (by omega) (by omega) (Or.inr (Or.inl ⟨by omega, by omega, by omega, by omega, by omega⟩)) (fun rq18x bq18x hq18x rq18m bq18m hq18m sq18 tq18 Isq18 Itq18 Gsq18 Gtq18 yq18_0 yq18_1 yq18_2 yq18_3 yq18_4 pcq18 memq18 hRq18 => ?_)
    have Fsq18 := (Gsq18.mono (B := k_pl) rfl).tr F1
    have Ftq18 := (Gtq18.mono (B := k_pm) rfl).tr Fs13
    have esq18_6 : sq18 64 1 = σ1 64 1 := (Gsq18 64 1 rfl).trans rfl
    have esq18_7 : sq18 66 8 = σ1 66 8 := (Gsq18 66 8 rfl).trans rfl
    have esq18_8 : sq18 66 9 = σ1 66 9 := (Gsq18 66 9 rfl).trans rfl
    have esq18_9 : sq18 66 10 = σ1 66 10 := (Gsq18 66 10 rfl).trans rfl
    have esq18_10 : sq18 69 2 = σ1 69 2 := (Gsq18 69 2 rfl).trans rfl
    have esq18_11 : sq18 72 2 = σ1 72 2 := (Gsq18 72 2 rfl).trans rfl
    have esq18_12 : sq18 63 5 = σ1 63 5 := (Gsq18 63 5 rfl).trans rfl
    have etq18_6 : tq18 98 5 = σ2 98 5 := (Gtq18 98 5 rfl).trans es13.2.2.2.2.2.2.1
    have etq18_7 : tq18 98 6 = σ2 98 6 := (Gtq18 98 6 rfl).trans es13.2.2.2.2.2.2.2.1
    have etq18_8 : tq18 98 7 = σ2 98 7 := (Gtq18 98 7 rfl).trans es13.2.2.2.2.2.2.2.2.1
    have etq18_9 : tq18 98 8 = σ2 98 8 := (Gtq18 98 8 rfl).trans es13.2.2.2.2.2.2.2.2.2.1
    have etq18_10 : tq18 98 9 = σ2 98 9 := (Gtq18 98 9 rfl).trans es13.2.2.2.2.2.2.2.2.2.2.1
    have etq18_11 : tq18 101 18 = σ2 101 18 := (Gtq18 101 18 rfl).trans es13.2.2.2.2.2.2.2.2.2.2.2.1
    have etq18_12 : tq18 101 25 = σ2 101 25 := (Gtq18 101 25 rfl).trans es13.2.2.2.2.2.2.2.2.2.2.2.2.1
    have etq18_13 : tq18 101 43 = σ2 101 43 := (Gtq18 101 43 rfl).trans es13.2.2.2.2.2.2.2.2.2.2.2.2.2.1
    rcases pcq18 with pcq18 | pcq18
    · show h_T g_P (g_Y ns) 150 6 [(0, .ref 98)] [.int rq18m] tq18 _
      refine h_istore_n (pc' := 7) (M := [(1, .int rq18m), (0, .ref 98)]) rfl rfl rfl rfl ?_
      have oH19 : tq18 98 8 = σ2 98 8 := etq18_9
      have uH19 := tf_98_8 Itq18
      refine lm_hi _ Itq18 rq18m _ hq18m (by omega) (fun H19 hH19 => (h_fgt (E := fun s => s 98 15 = tq18 98 15 ∧ s 98 16 = tq18 98 16 ∧ s 98 17 = tq18 98 17 ∧ s 98 18 = tq18 98 18 ∧ s 98 13 = tq18 98 13 ∧ s 98 14 = tq18 98 14 ∧ s 98 5 = σ2 98 5 ∧ s 98 6 = σ2 98 6 ∧ s 98 7 = σ2 98 7 ∧ s 98 8 = H19 ∧ s 98 9 = σ2 98 9 ∧ s 101 18 = σ2 101 18 ∧ s 101 25 = σ2 101 25 ∧ s 101 43 = σ2 101 43 ∧ s = h_up tq18 98 8 H19) _ (if_98_8 Itq18 (by omega)) (Ftq18.up rfl) ⟨rfl, rfl, rfl, rfl, rfl, rfl, etq18_6, etq18_7, etq18_8, rfl, etq18_10, etq18_11, etq18_12, etq18_13, rfl⟩ (fun s20 Is20 Fs20 (es20 : s20 98 15 = tq18 98 15 ∧ s20 98 16 = tq18 98 16 ∧ s20 98 17 = tq18 98 17 ∧ s20 98 18 = tq18 98 18 ∧ s20 98 13 = tq18 98 13 ∧ s20 98 14 = tq18 98 14 ∧ s20 98 5 = σ2 98 5 ∧ s20 98 6 = σ2 98 6 ∧ s20 98 7 = σ2 98 7 ∧ s20 98 8 = H19 ∧ s20 98 9 = σ2 98 9 ∧ s20 101 18 = σ2 101 18 ∧ s20 101 25 = σ2 101 25 ∧ s20 101 43 = σ2 101 43 ∧ s20 = h_up tq18 98 8 H19) => ?_)))
      refine h_iload_n (pc' := 28) rfl rfl rfl ?_
      refine h_iret rfl rfl (d_ret hlv17 ?_)
      refine h_iast (pc' := 60) rfl rfl rfl rfl hz16 (by omega) (by omega) hq18m (h_fgt (E := fun s => s 98 15 = tq18 98 15 ∧ s 98 16 = tq18 98 16 ∧ s 98 17 = tq18 98 17 ∧ s 98 18 = tq18 98 18 ∧ s 98 13 = tq18 98 13 ∧ s 98 14 = tq18 98 14 ∧ s 98 5 = σ2 98 5 ∧ s 98 6 = σ2 98 6 ∧ s 98 7 = σ2 98 7 ∧ s 98 8 = H19 ∧ s 98 9 = σ2 98 9 ∧ s 101 18 = σ2 101 18 ∧ s 101 25 = σ2 101 25 ∧ s 101 43 = σ2 101 43 ∧ s = h_up s20 101 ((19 + (2 * c2)) + 1) bq18m) _ (ip_101_4 Is20 (by omega) (by omega)) (Fs20.up rfl) ⟨es20.1, es20.2.1, es20.2.2.1, es20.2.2.2.1, es20.2.2.2.2.1, es20.2.2.2.2.2.1, es20.2.2.2.2.2.2.1, es20.2.2.2.2.2.2.2.1, es20.2.2.2.2.2.2.2.2.1, es20.2.2.2.2.2.2.2.2.2.1, es20.2.2.2.2.2.2.2.2.2.2.1, h_up_n2 (by omega) es20.2.2.2.2.2.2.2.2.2.2.2.1, h_up_n2 (by omega) es20.2.2.2.2.2.2.2.2.2.2.2.2.1, h_up_n2 (by omega) es20.2.2.2.2.2.2.2.2.2.2.2.2.2.1, rfl⟩ (fun s21 Is21 Fs21 (es21 : s21 98 15 = tq18 98 15 ∧ s21 98 16 = tq18 98 16 ∧ s21 98 17 = tq18 98 17 ∧ s21 98 18 = tq18 98 18 ∧ s21 98 13 = tq18 98 13 ∧ s21 98 14 = tq18 98 14 ∧ s21 98 5 = σ2 98 5 ∧ s21 98 6 = σ2 98 6 ∧ s21 98 7 = σ2 98 7 ∧ s21 98 8 = H19 ∧ s21 98 9 = σ2 98 9 ∧ s21 101 18 = σ2 101 18 ∧ s21 101 25 = σ2 101 25 ∧ s21 101 43 = σ2 101 43 ∧ s21 = h_up s20 101 ((19 + (2 * c2)) + 1) bq18m) => ?_))
      clear hq18m hz16
      refine h_aload_n (pc' := 61) rfl rfl rfl ?_
      refine h_getR (pc' := 64) rfl rfl rfl rfl rfl ?_
      refine h_iload_n (pc' := 65) rfl rfl rfl ?_
      refine h_bipush (pc' := 67) (x := (Int32.ofInt 6)) rfl rfl cb_6 ?_
      refine h_iadd (pc' := 68) (c := 25) rfl rfl ci_19 ci_6 rfl (by omega) (by omega) (fun z22 hz22 => ?_)
      refine h_dup2 (pc' := 69) rfl rfl rfl ?_
      refine h_iald (pc' := 70) (v := σ2 101 25) rfl rfl rfl hz22 (by omega) (by omega) es21.2.2.2.2.2.2.2.2.2.2.2.2.1 (fun z23 hz23 => ?_)
      have tz23 := ty_101_5 hI2 25 (by omega)
      refine h_iconst (pc' := 71) (x := (Int32.ofInt 1)) rfl rfl rfl ?_
      refine h_iadd (pc' := 72) rfl rfl hz23 ci_1 rfl (by omega) (by omega) (fun z24 hz24 => ?_)
      clear hz23
      refine h_iast (pc' := 73) rfl rfl rfl rfl hz22 (by omega) (by omega) hz24 (h_fgt (E := fun s => s 98 15 = tq18 98 15 ∧ s 98 16 = tq18 98 16 ∧ s 98 17 = tq18 98 17 ∧ s 98 18 = tq18 98 18 ∧ s 98 13 = tq18 98 13 ∧ s 98 14 = tq18 98 14 ∧ s 98 5 = σ2 98 5 ∧ s 98 6 = σ2 98 6 ∧ s 98 7 = σ2 98 7 ∧ s 98 8 = H19 ∧ s 98 9 = σ2 98 9 ∧ s 101 18 = σ2 101 18 ∧ s 101 25 = ((σ2 101 25) + 1) ∧ s 101 43 = σ2 101 43 ∧ s = h_up s21 101 25 ((σ2 101 25) + 1)) _ (ip_101_5 Is21 (by omega) (by omega)) (Fs21.up rfl) ⟨es21.1, es21.2.1, es21.2.2.1, es21.2.2.2.1, es21.2.2.2.2.1, es21.2.2.2.2.2.1, es21.2.2.2.2.2.2.1, es21.2.2.2.2.2.2.2.1, es21.2.2.2.2.2.2.2.2.1, es21.2.2.2.2.2.2.2.2.2.1, es21.2.2.2.2.2.2.2.2.2.2.1, es21.2.2.2.2.2.2.2.2.2.2.2.1, rfl, es21.2.2.2.2.2.2.2.2.2.2.2.2.2.1, rfl⟩ (fun s25 Is25 Fs25 (es25 : s25 98 15 = tq18 98 15 ∧ s25 98 16 = tq18 98 16 ∧ s25 98 17 = tq18 98 17 ∧ s25 98 18 = tq18 98 18 ∧ s25 98 13 = tq18 98 13 ∧ s25 98 14 = tq18 98 14 ∧ s25 98 5 = σ2 98 5 ∧ s25 98 6 = σ2 98 6 ∧ s25 98 7 = σ2 98 7 ∧ s25 98 8 = H19 ∧ s25 98 9 = σ2 98 9 ∧ s25 101 18 = σ2 101 18 ∧ s25 101 25 = ((σ2 101 25) + 1) ∧ s25 101 43 = σ2 101 43 ∧ s25 = h_up s21 101 25 ((σ2 101 25) + 1)) => ?_))
      clear hz22
      refine d_toL (g_inj ns) hlw6 hRq18 (fun lvw26 memw26 hlw26 hRw26 => ?_)
      show h_T g_P (g_Y ns) 60 49 [(0, .ref 63), (1, .ref 72), (2, .int x2)] [.int rq18x] sq18 _
      refine h_istore_n (pc' := 50) (M := [(3, .int rq18x), (0, .ref 63), (1, .ref 72), (2, .int x2)]) rfl rfl rfl rfl ?_
      refine h_aload_n (pc' := 51) rfl rfl rfl ?_
      refine h_getI (pc' := 54) (v := sq18 63 2) rfl rfl rfl rfl rfl rfl (fun z27 hz27 => ?_)
      have tz27 := tf_63_2 Isq18
      refine h_zne (tg := 64) (pc' := 57) rfl rfl rfl hz27 (fun c28 => ?_) (fun c28 => absurd c28 (by omega))
      clear hz27
      exact h_wk [(0, .ref 63)] ⟨rfl, trivial⟩ (kx0 _ _ Isq18 Is25 Fsq18 Fs25 (by omega) (by omega) (by omega) (by omega) (by omega) (fun h => absurd h (by omega)) (Or.inl ⟨by omega, by omega, by omega, by omega⟩) _ _ (h_al_ok ⟨rfl, trivial⟩ hlw26) hRw26)
    · exfalso; omega
  · show h_T g_P (g_Y ns) 60 14 [(0, .ref 63), (1, .ref 72), (2, .int x2)] [] σ1 _
    refine h_aload_n (pc' := 15) rfl rfl rfl ?_
    refine h_call (sp := false) (pc' := 18) (M := [(0, .ref 63)]) rfl rfl rfl rfl rfl rfl rfl rfl ?_
    refine h_aload_n (pc' := 1) rfl rfl rfl ?_
    refine h_getI (pc' := 4) (v := σ1 63 2) rfl rfl rfl rfl rfl rfl (fun z29 hz29 => ?_)
    have tz29 := tf_63_2 hI1
    refine h_zne (tg := 22) (pc' := 7) rfl rfl rfl hz29 (fun c30 => absurd c30 (by omega)) (fun c30 => ?_)
    clear hz29
    refine h_aload_n (pc' := 8) rfl rfl rfl ?_
    refine h_getR (pc' := 11) rfl rfl rfl rfl rfl ?_
    refine h_getI (pc' := 14) (v := σ1 64 3) rfl rfl rfl rfl rfl rfl (fun z31 hz31 => ?_)
    have tz31 := tf_64_3 hI1
    refine h_iconst (pc' := 15) (x := (Int32.ofInt 2)) rfl rfl rfl ?_
    refine h_cne (tg := 22) (pc' := 18) rfl rfl rfl hz31 ci_2 (fun c32 => ?_) (fun c32 => absurd c32 (by omega))
    clear hz31
    refine h_iconst (pc' := 23) (x := (Int32.ofInt 0)) rfl rfl rfl ?_
    refine h_zret rfl rfl ci_0 (by omega) (h_Kv ?_)
    refine h_zeq (tg := 44) (pc' := 21) rfl rfl rfl ci_0 (fun c33 => ?_) (fun c33 => absurd c33 (by omega))
    refine h_aload_n (pc' := 45) rfl rfl rfl ?_
    refine h_iconst (pc' := 46) (x := (Int32.ofInt 5)) rfl rfl rfl ?_
    refine d_toM (g_inj ns) hl2 hR2 (fun lvw34 memw34 hlw34 hRw34 => ?_)
    show h_T g_P (g_Y ns) 151 5 [(0, .ref 98), (1, .int (Int32.ofInt 19)), (2, .int y2), (3, .int y3)] [] σ2 _
    refine h_aload_n (pc' := 6) rfl rfl rfl ?_
    refine h_getI (pc' := 9) (v := σ2 98 13) rfl rfl rfl rfl rfl rfl (fun z35 hz35 => ?_)
    have tz35 := tf_98_13 hI2
    refine h_zne (tg := 33) (pc' := 12) rfl rfl rfl hz35 (fun c36 => absurd c36 (by omega)) (fun c36 => ?_)
    clear hz35
    refine h_aload_n (pc' := 13) rfl rfl rfl ?_
    refine h_getI (pc' := 16) (v := σ2 98 17) rfl rfl rfl rfl rfl rfl (fun z37 hz37 => ?_)
    have tz37 := tf_98_17 hI2
    refine h_iconst (pc' := 17) (x := (Int32.ofInt 2)) rfl rfl rfl ?_
    refine h_cne (tg := 33) (pc' := 20) rfl rfl rfl hz37 ci_2 (fun c38 => ?_) (fun c38 => absurd c38 (by omega))
    clear hz37
    refine h_aload_n (pc' := 34) rfl rfl rfl ?_
    refine h_getR (pc' := 37) rfl rfl rfl rfl rfl ?_
    refine h_iload_n (pc' := 38) rfl rfl rfl ?_
    refine h_iconst (pc' := 39) (x := (Int32.ofInt 2)) rfl rfl rfl ?_
    refine h_iload_n (pc' := 40) rfl rfl rfl ?_
    refine h_imul (pc' := 41) rfl rfl ci_2 hy2 rfl (by omega) (by omega) (fun z39 hz39 => ?_)
    refine h_iadd (pc' := 42) rfl rfl ci_19 hz39 rfl (by omega) (by omega) (fun z40 hz40 => ?_)
    clear hz39
    refine h_iload_n (pc' := 43) rfl rfl rfl ?_
    refine h_iast (pc' := 44) rfl rfl rfl rfl hz40 (by omega) (by omega) hy3 (h_fgt (E := fun s => s 98 15 = σ2 98 15 ∧ s 98 16 = σ2 98 16 ∧ s 98 17 = σ2 98 17 ∧ s 98 18 = σ2 98 18 ∧ s 98 13 = σ2 98 13 ∧ s 98 14 = σ2 98 14 ∧ s 98 5 = σ2 98 5 ∧ s 98 6 = σ2 98 6 ∧ s 98 7 = σ2 98 7 ∧ s 98 8 = σ2 98 8 ∧ s 98 9 = σ2 98 9 ∧ s 101 18 = σ2 101 18 ∧ s 101 25 = σ2 101 25 ∧ s 101 43 = σ2 101 43 ∧ s = h_up σ2 101 (19 + (2 * c2)) c3) _ (ip_101_4 hI2 (by omega) (by omega)) (F2.up rfl) ⟨rfl, rfl, rfl, rfl, rfl, rfl, rfl, rfl, rfl, rfl, rfl, h_up_n2 (by omega) rfl, h_up_n2 (by omega) rfl, h_up_n2 (by omega) rfl, rfl⟩ (fun s41 Is41 Fs41 (es41 : s41 98 15 = σ2 98 15 ∧ s41 98 16 = σ2 98 16 ∧ s41 98 17 = σ2 98 17 ∧ s41 98 18 = σ2 98 18 ∧ s41 98 13 = σ2 98 13 ∧ s41 98 14 = σ2 98 14 ∧ s41 98 5 = σ2 98 5 ∧ s41 98 6 = σ2 98 6 ∧ s41 98 7 = σ2 98 7 ∧ s41 98 8 = σ2 98 8 ∧ s41 98 9 = σ2 98 9 ∧ s41 101 18 = σ2 101 18 ∧ s41 101 25 = σ2 101 25 ∧ s41 101 43 = σ2 101 43 ∧ s41 = h_up σ2 101 (19 + (2 * c2)) c3) => ?_))
    clear hz40
    refine h_aload_n (pc' := 45) rfl rfl rfl ?_
    refine h_getR (pc' := 48) rfl rfl rfl rfl rfl ?_
    refine h_iload_n (pc' := 49) rfl rfl rfl ?_
    refine h_iconst (pc' := 50) (x := (Int32.ofInt 2)) rfl rfl rfl ?_
    refine h_iload_n (pc' := 51) rfl rfl rfl ?_
    refine h_imul (pc' := 52) rfl rfl ci_2 hy2 rfl (by omega) (by omega) (fun z42 hz42 => ?_)
    refine h_iadd (pc' := 53) rfl rfl ci_19 hz42 rfl (by omega) (by omega) (fun z43 hz43 => ?_)
    clear hz42
    refine h_iconst (pc' := 54) (x := (Int32.ofInt 1)) rfl rfl rfl ?_
    refine h_iadd (pc' := 55) rfl rfl hz43 ci_1 rfl (by omega) (by omega) (fun z44 hz44 => ?_)
    clear hz43
    refine h_aload_n (pc' := 56) rfl rfl rfl ?_
    refine d_call (g_inj ns) (pc' := 59) (m := 150) (M := [(0, .ref 98)]) (rest := [.int z44, .ref 101]) ⟨false, _, _, _, _, _, _, rfl, rfl, rfl, rfl, rfl, rfl, rfl⟩ (fun lv45 hlv45 => ?_)
    refine h_aload_n (pc' := 1) rfl rfl rfl ?_
    refine h_iconst (pc' := 2) (x := (Int32.ofInt 0)) rfl rfl rfl ?_
    refine h_iconst (pc' := 3) (x := (Int32.ofInt 5)) rfl rfl rfl ?_
    refine d_pcall (g_inj ns) (m1 := 58) (pc1' := 49) (M1 := [(0, .ref 63), (1, .int (Int32.ofInt 5))]) (rest1 := []) (m2 := 149) (pc2' := 6) (M2 := [(0, .ref 98), (1, .int (Int32.ofInt 0)), (2, .int (Int32.ofInt 5))]) (rest2 := []) ⟨false, _, _, _, _, _, _, rfl, rfl, rfl, rfl, rfl, rfl, rfl⟩ ⟨false, _, _, _, _, _, _, rfl, rfl, rfl, rfl, rfl, rfl, rfl⟩ hRw34 ?_
    refine pp_num hI1 Is41 (hTL.fr (F1.mono rfl) (Fs41.mono rfl)) (Int32.ofInt 5) _ ci_5 (Int32.ofInt 5) _ ci_5 (by omega) (by omega) (by omega) (by omega) (by omega) (by omega) (Or.inr (Or.inr (Or.inl ⟨by omega, by omega, by omega, by omega, by omega⟩))) (fun rq46x bq46x hq46x rq46m bq46m hq46m sq46 tq46 Isq46 Itq46 Gsq46 Gtq46 yq46_0 yq46_1 yq46_2 yq46_3 yq46_4 pcq46 memq46 hRq46 => ?_)
    have Fsq46 := (Gsq46.mono (B := k_pl) rfl).tr F1
    have Ftq46 := (Gtq46.mono (B := k_pm) rfl).tr Fs41
    have esq46_6 : sq46 64 1 = σ1 64 1 := (Gsq46 64 1 rfl).trans rfl
    have esq46_7 : sq46 66 8 = σ1 66 8 := (Gsq46 66 8 rfl).trans rfl
    have esq46_8 : sq46 66 9 = σ1 66 9 := (Gsq46 66 9 rfl).trans rfl
    have esq46_9 : sq46 66 10 = σ1 66 10 := (Gsq46 66 10 rfl).trans rfl
    have esq46_10 : sq46 69 2 = σ1 69 2 := (Gsq46 69 2 rfl).trans rfl
    have esq46_11 : sq46 72 2 = σ1 72 2 := (Gsq46 72 2 rfl).trans rfl
    have esq46_12 : sq46 63 5 = σ1 63 5 := (Gsq46 63 5 rfl).trans rfl
    have etq46_6 : tq46 98 5 = σ2 98 5 := (Gtq46 98 5 rfl).trans es41.2.2.2.2.2.2.1
    have etq46_7 : tq46 98 6 = σ2 98 6 := (Gtq46 98 6 rfl).trans es41.2.2.2.2.2.2.2.1
    have etq46_8 : tq46 98 7 = σ2 98 7 := (Gtq46 98 7 rfl).trans es41.2.2.2.2.2.2.2.2.1
    have etq46_9 : tq46 98 8 = σ2 98 8 := (Gtq46 98 8 rfl).trans es41.2.2.2.2.2.2.2.2.2.1
    have etq46_10 : tq46 98 9 = σ2 98 9 := (Gtq46 98 9 rfl).trans es41.2.2.2.2.2.2.2.2.2.2.1
    have etq46_11 : tq46 101 18 = σ2 101 18 := (Gtq46 101 18 rfl).trans es41.2.2.2.2.2.2.2.2.2.2.2.1
    have etq46_12 : tq46 101 25 = σ2 101 25 := (Gtq46 101 25 rfl).trans es41.2.2.2.2.2.2.2.2.2.2.2.2.1
    have etq46_13 : tq46 101 43 = σ2 101 43 := (Gtq46 101 43 rfl).trans es41.2.2.2.2.2.2.2.2.2.2.2.2.2.1
    rcases pcq46 with pcq46 | pcq46
    · show h_T g_P (g_Y ns) 150 6 [(0, .ref 98)] [.int rq46m] tq46 _
      refine h_istore_n (pc' := 7) (M := [(1, .int rq46m), (0, .ref 98)]) rfl rfl rfl rfl ?_
      have oH47 : tq46 98 8 = σ2 98 8 := etq46_9
      have uH47 := tf_98_8 Itq46
      refine lm_hi _ Itq46 rq46m _ hq46m (by omega) (fun H47 hH47 => (h_fgt (E := fun s => s 98 15 = tq46 98 15 ∧ s 98 16 = tq46 98 16 ∧ s 98 17 = tq46 98 17 ∧ s 98 18 = tq46 98 18 ∧ s 98 13 = tq46 98 13 ∧ s 98 14 = tq46 98 14 ∧ s 98 5 = σ2 98 5 ∧ s 98 6 = σ2 98 6 ∧ s 98 7 = σ2 98 7 ∧ s 98 8 = H47 ∧ s 98 9 = σ2 98 9 ∧ s 101 18 = σ2 101 18 ∧ s 101 25 = σ2 101 25 ∧ s 101 43 = σ2 101 43 ∧ s = h_up tq46 98 8 H47) _ (if_98_8 Itq46 (by omega)) (Ftq46.up rfl) ⟨rfl, rfl, rfl, rfl, rfl, rfl, etq46_6, etq46_7, etq46_8, rfl, etq46_10, etq46_11, etq46_12, etq46_13, rfl⟩ (fun s48 Is48 Fs48 (es48 : s48 98 15 = tq46 98 15 ∧ s48 98 16 = tq46 98 16 ∧ s48 98 17 = tq46 98 17 ∧ s48 98 18 = tq46 98 18 ∧ s48 98 13 = tq46 98 13 ∧ s48 98 14 = tq46 98 14 ∧ s48 98 5 = σ2 98 5 ∧ s48 98 6 = σ2 98 6 ∧ s48 98 7 = σ2 98 7 ∧ s48 98 8 = H47 ∧ s48 98 9 = σ2 98 9 ∧ s48 101 18 = σ2 101 18 ∧ s48 101 25 = σ2 101 25 ∧ s48 101 43 = σ2 101 43 ∧ s48 = h_up tq46 98 8 H47) => ?_)))
      refine h_iload_n (pc' := 28) rfl rfl rfl ?_
      refine h_iret rfl rfl (d_ret hlv45 ?_)
      refine h_iast (pc' := 60) rfl rfl rfl rfl hz44 (by omega) (by omega) hq46m (h_fgt (E := fun s => s 98 15 = tq46 98 15 ∧ s 98 16 = tq46 98 16 ∧ s 98 17 = tq46 98 17 ∧ s 98 18 = tq46 98 18 ∧ s 98 13 = tq46 98 13 ∧ s 98 14 = tq46 98 14 ∧ s 98 5 = σ2 98 5 ∧ s 98 6 = σ2 98 6 ∧ s 98 7 = σ2 98 7 ∧ s 98 8 = H47 ∧ s 98 9 = σ2 98 9 ∧ s 101 18 = σ2 101 18 ∧ s 101 25 = σ2 101 25 ∧ s 101 43 = σ2 101 43 ∧ s = h_up s48 101 ((19 + (2 * c2)) + 1) bq46m) _ (ip_101_4 Is48 (by omega) (by omega)) (Fs48.up rfl) ⟨es48.1, es48.2.1, es48.2.2.1, es48.2.2.2.1, es48.2.2.2.2.1, es48.2.2.2.2.2.1, es48.2.2.2.2.2.2.1, es48.2.2.2.2.2.2.2.1, es48.2.2.2.2.2.2.2.2.1, es48.2.2.2.2.2.2.2.2.2.1, es48.2.2.2.2.2.2.2.2.2.2.1, h_up_n2 (by omega) es48.2.2.2.2.2.2.2.2.2.2.2.1, h_up_n2 (by omega) es48.2.2.2.2.2.2.2.2.2.2.2.2.1, h_up_n2 (by omega) es48.2.2.2.2.2.2.2.2.2.2.2.2.2.1, rfl⟩ (fun s49 Is49 Fs49 (es49 : s49 98 15 = tq46 98 15 ∧ s49 98 16 = tq46 98 16 ∧ s49 98 17 = tq46 98 17 ∧ s49 98 18 = tq46 98 18 ∧ s49 98 13 = tq46 98 13 ∧ s49 98 14 = tq46 98 14 ∧ s49 98 5 = σ2 98 5 ∧ s49 98 6 = σ2 98 6 ∧ s49 98 7 = σ2 98 7 ∧ s49 98 8 = H47 ∧ s49 98 9 = σ2 98 9 ∧ s49 101 18 = σ2 101 18 ∧ s49 101 25 = σ2 101 25 ∧ s49 101 43 = σ2 101 43 ∧ s49 = h_up s48 101 ((19 + (2 * c2)) + 1) bq46m) => ?_))
      clear hq46m hz44
      refine h_aload_n (pc' := 61) rfl rfl rfl ?_
      refine h_getR (pc' := 64) rfl rfl rfl rfl rfl ?_
      refine h_iload_n (pc' := 65) rfl rfl rfl ?_
      refine h_bipush (pc' := 67) (x := (Int32.ofInt 6)) rfl rfl cb_6 ?_
      refine h_iadd (pc' := 68) (c := 25) rfl rfl ci_19 ci_6 rfl (by omega) (by omega) (fun z50 hz50 => ?_)
      refine h_dup2 (pc' := 69) rfl rfl rfl ?_
      refine h_iald (pc' := 70) (v := σ2 101 25) rfl rfl rfl hz50 (by omega) (by omega) es49.2.2.2.2.2.2.2.2.2.2.2.2.1 (fun z51 hz51 => ?_)
      have tz51 := ty_101_5 hI2 25 (by omega)
      refine h_iconst (pc' := 71) (x := (Int32.ofInt 1)) rfl rfl rfl ?_
      refine h_iadd (pc' := 72) rfl rfl hz51 ci_1 rfl (by omega) (by omega) (fun z52 hz52 => ?_)
      clear hz51
      refine h_iast (pc' := 73) rfl rfl rfl rfl hz50 (by omega) (by omega) hz52 (h_fgt (E := fun s => s 98 15 = tq46 98 15 ∧ s 98 16 = tq46 98 16 ∧ s 98 17 = tq46 98 17 ∧ s 98 18 = tq46 98 18 ∧ s 98 13 = tq46 98 13 ∧ s 98 14 = tq46 98 14 ∧ s 98 5 = σ2 98 5 ∧ s 98 6 = σ2 98 6 ∧ s 98 7 = σ2 98 7 ∧ s 98 8 = H47 ∧ s 98 9 = σ2 98 9 ∧ s 101 18 = σ2 101 18 ∧ s 101 25 = ((σ2 101 25) + 1) ∧ s 101 43 = σ2 101 43 ∧ s = h_up s49 101 25 ((σ2 101 25) + 1)) _ (ip_101_5 Is49 (by omega) (by omega)) (Fs49.up rfl) ⟨es49.1, es49.2.1, es49.2.2.1, es49.2.2.2.1, es49.2.2.2.2.1, es49.2.2.2.2.2.1, es49.2.2.2.2.2.2.1, es49.2.2.2.2.2.2.2.1, es49.2.2.2.2.2.2.2.2.1, es49.2.2.2.2.2.2.2.2.2.1, es49.2.2.2.2.2.2.2.2.2.2.1, es49.2.2.2.2.2.2.2.2.2.2.2.1, rfl, es49.2.2.2.2.2.2.2.2.2.2.2.2.2.1, rfl⟩ (fun s53 Is53 Fs53 (es53 : s53 98 15 = tq46 98 15 ∧ s53 98 16 = tq46 98 16 ∧ s53 98 17 = tq46 98 17 ∧ s53 98 18 = tq46 98 18 ∧ s53 98 13 = tq46 98 13 ∧ s53 98 14 = tq46 98 14 ∧ s53 98 5 = σ2 98 5 ∧ s53 98 6 = σ2 98 6 ∧ s53 98 7 = σ2 98 7 ∧ s53 98 8 = H47 ∧ s53 98 9 = σ2 98 9 ∧ s53 101 18 = σ2 101 18 ∧ s53 101 25 = ((σ2 101 25) + 1) ∧ s53 101 43 = σ2 101 43 ∧ s53 = h_up s49 101 25 ((σ2 101 25) + 1)) => ?_))
      clear hz50
      refine d_toL (g_inj ns) hlw34 hRq46 (fun lvw54 memw54 hlw54 hRw54 => ?_)
      show h_T g_P (g_Y ns) 60 49 [(0, .ref 63), (1, .ref 72), (2, .int x2)] [.int rq46x] sq46 _
      refine h_istore_n (pc' := 50) (M := [(3, .int rq46x), (0, .ref 63), (1, .ref 72), (2, .int x2)]) rfl rfl rfl rfl ?_
      refine h_aload_n (pc' := 51) rfl rfl rfl ?_
      refine h_getI (pc' := 54) (v := sq46 63 2) rfl rfl rfl rfl rfl rfl (fun z55 hz55 => ?_)
      have tz55 := tf_63_2 Isq46
      refine h_zne (tg := 64) (pc' := 57) rfl rfl rfl hz55 (fun c56 => ?_) (fun c56 => absurd c56 (by omega))
      clear hz55
      exact h_wk [(0, .ref 63)] ⟨rfl, trivial⟩ (kx0 _ _ Isq46 Is53 Fsq46 Fs53 (by omega) (by omega) (by omega) (by omega) (by omega) (fun h => absurd h (by omega)) (Or.inl ⟨by omega, by omega, by omega, by omega⟩) _ _ (h_al_ok ⟨rfl, trivial⟩ hlw54) hRw54)
    · exfalso; omega
  · show h_T g_P (g_Y ns) 60 14 [(0, .ref 63), (1, .ref 72), (2, .int x2)] [] σ1 _
    refine h_aload_n (pc' := 15) rfl rfl rfl ?_
    refine h_call (sp := false) (pc' := 18) (M := [(0, .ref 63)]) rfl rfl rfl rfl rfl rfl rfl rfl ?_
    refine h_aload_n (pc' := 1) rfl rfl rfl ?_
    refine h_getI (pc' := 4) (v := σ1 63 2) rfl rfl rfl rfl rfl rfl (fun z57 hz57 => ?_)
    have tz57 := tf_63_2 hI1
    refine h_zne (tg := 22) (pc' := 7) rfl rfl rfl hz57 (fun c58 => absurd c58 (by omega)) (fun c58 => ?_)
    clear hz57
    refine h_aload_n (pc' := 8) rfl rfl rfl ?_
    refine h_getR (pc' := 11) rfl rfl rfl rfl rfl ?_
    refine h_getI (pc' := 14) (v := σ1 64 3) rfl rfl rfl rfl rfl rfl (fun z59 hz59 => ?_)
    have tz59 := tf_64_3 hI1
    refine h_iconst (pc' := 15) (x := (Int32.ofInt 2)) rfl rfl rfl ?_
    refine h_cne (tg := 22) (pc' := 18) rfl rfl rfl hz59 ci_2 (fun c60 => absurd c60 (by omega)) (fun c60 => ?_)
    clear hz59
    refine h_iconst (pc' := 19) (x := (Int32.ofInt 1)) rfl rfl rfl ?_
    refine h_goto (pc' := 23) rfl rfl ?_
    refine h_zret rfl rfl ci_1 (by omega) (h_Kv ?_)
    refine h_zeq (tg := 44) (pc' := 21) rfl rfl rfl ci_1 (fun c61 => absurd c61 (by omega)) (fun c61 => ?_)
    refine h_aload_n (pc' := 22) rfl rfl rfl ?_
    refine h_getR (pc' := 25) rfl rfl rfl rfl rfl ?_
    refine h_getI (pc' := 28) (v := σ1 64 5) rfl rfl rfl rfl rfl rfl (fun z62 hz62 => ?_)
    have tz62 := tf_64_5 hI1
    refine h_iload_n (pc' := 29) rfl rfl rfl ?_
    refine h_cne (tg := 44) (pc' := 32) rfl rfl rfl hz62 hx2 (fun c63 => ?_) (fun c63 => ?_)
    · clear hz62
      refine h_aload_n (pc' := 45) rfl rfl rfl ?_
      refine h_iconst (pc' := 46) (x := (Int32.ofInt 5)) rfl rfl rfl ?_
      refine d_toM (g_inj ns) hl2 hR2 (fun lvw64 memw64 hlw64 hRw64 => ?_)
      show h_T g_P (g_Y ns) 151 5 [(0, .ref 98), (1, .int (Int32.ofInt 19)), (2, .int y2), (3, .int y3)] [] σ2 _
      refine h_aload_n (pc' := 6) rfl rfl rfl ?_
      refine h_getI (pc' := 9) (v := σ2 98 13) rfl rfl rfl rfl rfl rfl (fun z65 hz65 => ?_)
      have tz65 := tf_98_13 hI2
      refine h_zne (tg := 33) (pc' := 12) rfl rfl rfl hz65 (fun c66 => absurd c66 (by omega)) (fun c66 => ?_)
      clear hz65
      refine h_aload_n (pc' := 13) rfl rfl rfl ?_
      refine h_getI (pc' := 16) (v := σ2 98 17) rfl rfl rfl rfl rfl rfl (fun z67 hz67 => ?_)
      have tz67 := tf_98_17 hI2
      refine h_iconst (pc' := 17) (x := (Int32.ofInt 2)) rfl rfl rfl ?_
      refine h_cne (tg := 33) (pc' := 20) rfl rfl rfl hz67 ci_2 (fun c68 => absurd c68 (by omega)) (fun c68 => ?_)
      clear hz67
      refine h_aload_n (pc' := 21) rfl rfl rfl ?_
      refine h_getI (pc' := 24) (v := σ2 98 18) rfl rfl rfl rfl rfl rfl (fun z69 hz69 => ?_)
      have tz69 := tf_98_18 hI2
      refine h_iload_n (pc' := 25) rfl rfl rfl ?_
      refine h_cne (tg := 33) (pc' := 28) rfl rfl rfl hz69 hy3 (fun c70 => ?_) (fun c70 => ?_)
      · clear hz69
        refine h_aload_n (pc' := 34) rfl rfl rfl ?_
        refine h_getR (pc' := 37) rfl rfl rfl rfl rfl ?_
        refine h_iload_n (pc' := 38) rfl rfl rfl ?_
        refine h_iconst (pc' := 39) (x := (Int32.ofInt 2)) rfl rfl rfl ?_
        refine h_iload_n (pc' := 40) rfl rfl rfl ?_
        refine h_imul (pc' := 41) rfl rfl ci_2 hy2 rfl (by omega) (by omega) (fun z71 hz71 => ?_)
        refine h_iadd (pc' := 42) rfl rfl ci_19 hz71 rfl (by omega) (by omega) (fun z72 hz72 => ?_)
        clear hz71
        refine h_iload_n (pc' := 43) rfl rfl rfl ?_
        refine h_iast (pc' := 44) rfl rfl rfl rfl hz72 (by omega) (by omega) hy3 (h_fgt (E := fun s => s 98 15 = σ2 98 15 ∧ s 98 16 = σ2 98 16 ∧ s 98 17 = σ2 98 17 ∧ s 98 18 = σ2 98 18 ∧ s 98 13 = σ2 98 13 ∧ s 98 14 = σ2 98 14 ∧ s 98 5 = σ2 98 5 ∧ s 98 6 = σ2 98 6 ∧ s 98 7 = σ2 98 7 ∧ s 98 8 = σ2 98 8 ∧ s 98 9 = σ2 98 9 ∧ s 101 18 = σ2 101 18 ∧ s 101 25 = σ2 101 25 ∧ s 101 43 = σ2 101 43 ∧ s = h_up σ2 101 (19 + (2 * c2)) c3) _ (ip_101_4 hI2 (by omega) (by omega)) (F2.up rfl) ⟨rfl, rfl, rfl, rfl, rfl, rfl, rfl, rfl, rfl, rfl, rfl, h_up_n2 (by omega) rfl, h_up_n2 (by omega) rfl, h_up_n2 (by omega) rfl, rfl⟩ (fun s73 Is73 Fs73 (es73 : s73 98 15 = σ2 98 15 ∧ s73 98 16 = σ2 98 16 ∧ s73 98 17 = σ2 98 17 ∧ s73 98 18 = σ2 98 18 ∧ s73 98 13 = σ2 98 13 ∧ s73 98 14 = σ2 98 14 ∧ s73 98 5 = σ2 98 5 ∧ s73 98 6 = σ2 98 6 ∧ s73 98 7 = σ2 98 7 ∧ s73 98 8 = σ2 98 8 ∧ s73 98 9 = σ2 98 9 ∧ s73 101 18 = σ2 101 18 ∧ s73 101 25 = σ2 101 25 ∧ s73 101 43 = σ2 101 43 ∧ s73 = h_up σ2 101 (19 + (2 * c2)) c3) => ?_))
        clear hz72
        refine h_aload_n (pc' := 45) rfl rfl rfl ?_
        refine h_getR (pc' := 48) rfl rfl rfl rfl rfl ?_
        refine h_iload_n (pc' := 49) rfl rfl rfl ?_
        refine h_iconst (pc' := 50) (x := (Int32.ofInt 2)) rfl rfl rfl ?_
        refine h_iload_n (pc' := 51) rfl rfl rfl ?_
        refine h_imul (pc' := 52) rfl rfl ci_2 hy2 rfl (by omega) (by omega) (fun z74 hz74 => ?_)
        refine h_iadd (pc' := 53) rfl rfl ci_19 hz74 rfl (by omega) (by omega) (fun z75 hz75 => ?_)
        clear hz74
        refine h_iconst (pc' := 54) (x := (Int32.ofInt 1)) rfl rfl rfl ?_
        refine h_iadd (pc' := 55) rfl rfl hz75 ci_1 rfl (by omega) (by omega) (fun z76 hz76 => ?_)
        clear hz75
        refine h_aload_n (pc' := 56) rfl rfl rfl ?_
        refine d_call (g_inj ns) (pc' := 59) (m := 150) (M := [(0, .ref 98)]) (rest := [.int z76, .ref 101]) ⟨false, _, _, _, _, _, _, rfl, rfl, rfl, rfl, rfl, rfl, rfl⟩ (fun lv77 hlv77 => ?_)
        refine h_aload_n (pc' := 1) rfl rfl rfl ?_
        refine h_iconst (pc' := 2) (x := (Int32.ofInt 0)) rfl rfl rfl ?_
        refine h_iconst (pc' := 3) (x := (Int32.ofInt 5)) rfl rfl rfl ?_
        refine d_pcall (g_inj ns) (m1 := 58) (pc1' := 49) (M1 := [(0, .ref 63), (1, .int (Int32.ofInt 5))]) (rest1 := []) (m2 := 149) (pc2' := 6) (M2 := [(0, .ref 98), (1, .int (Int32.ofInt 0)), (2, .int (Int32.ofInt 5))]) (rest2 := []) ⟨false, _, _, _, _, _, _, rfl, rfl, rfl, rfl, rfl, rfl, rfl⟩ ⟨false, _, _, _, _, _, _, rfl, rfl, rfl, rfl, rfl, rfl, rfl⟩ hRw64 ?_
        refine pp_num hI1 Is73 (hTL.fr (F1.mono rfl) (Fs73.mono rfl)) (Int32.ofInt 5) _ ci_5 (Int32.ofInt 5) _ ci_5 (by omega) (by omega) (by omega) (by omega) (by omega) (by omega) (Or.inr (Or.inr (Or.inr (Or.inl ⟨by omega, by omega, by omega, by omega, by omega, by omega, by omega, by omega⟩)))) (fun rq78x bq78x hq78x rq78m bq78m hq78m sq78 tq78 Isq78 Itq78 Gsq78 Gtq78 yq78_0 yq78_1 yq78_2 yq78_3 yq78_4 pcq78 memq78 hRq78 => ?_)
        have Fsq78 := (Gsq78.mono (B := k_pl) rfl).tr F1
        have Ftq78 := (Gtq78.mono (B := k_pm) rfl).tr Fs73
        have esq78_6 : sq78 64 1 = σ1 64 1 := (Gsq78 64 1 rfl).trans rfl
        have esq78_7 : sq78 66 8 = σ1 66 8 := (Gsq78 66 8 rfl).trans rfl
        have esq78_8 : sq78 66 9 = σ1 66 9 := (Gsq78 66 9 rfl).trans rfl
        have esq78_9 : sq78 66 10 = σ1 66 10 := (Gsq78 66 10 rfl).trans rfl
        have esq78_10 : sq78 69 2 = σ1 69 2 := (Gsq78 69 2 rfl).trans rfl
        have esq78_11 : sq78 72 2 = σ1 72 2 := (Gsq78 72 2 rfl).trans rfl
        have esq78_12 : sq78 63 5 = σ1 63 5 := (Gsq78 63 5 rfl).trans rfl
        have etq78_6 : tq78 98 5 = σ2 98 5 := (Gtq78 98 5 rfl).trans es73.2.2.2.2.2.2.1
        have etq78_7 : tq78 98 6 = σ2 98 6 := (Gtq78 98 6 rfl).trans es73.2.2.2.2.2.2.2.1
        have etq78_8 : tq78 98 7 = σ2 98 7 := (Gtq78 98 7 rfl).trans es73.2.2.2.2.2.2.2.2.1
        have etq78_9 : tq78 98 8 = σ2 98 8 := (Gtq78 98 8 rfl).trans es73.2.2.2.2.2.2.2.2.2.1
        have etq78_10 : tq78 98 9 = σ2 98 9 := (Gtq78 98 9 rfl).trans es73.2.2.2.2.2.2.2.2.2.2.1
        have etq78_11 : tq78 101 18 = σ2 101 18 := (Gtq78 101 18 rfl).trans es73.2.2.2.2.2.2.2.2.2.2.2.1
        have etq78_12 : tq78 101 25 = σ2 101 25 := (Gtq78 101 25 rfl).trans es73.2.2.2.2.2.2.2.2.2.2.2.2.1
        have etq78_13 : tq78 101 43 = σ2 101 43 := (Gtq78 101 43 rfl).trans es73.2.2.2.2.2.2.2.2.2.2.2.2.2.1
        rcases pcq78 with pcq78 | pcq78
        · show h_T g_P (g_Y ns) 150 6 [(0, .ref 98)] [.int rq78m] tq78 _
          refine h_istore_n (pc' := 7) (M := [(1, .int rq78m), (0, .ref 98)]) rfl rfl rfl rfl ?_
          have oH79 : tq78 98 8 = σ2 98 8 := etq78_9
          have uH79 := tf_98_8 Itq78
          refine lm_hi _ Itq78 rq78m _ hq78m (by omega) (fun H79 hH79 => (h_fgt (E := fun s => s 98 15 = tq78 98 15 ∧ s 98 16 = tq78 98 16 ∧ s 98 17 = tq78 98 17 ∧ s 98 18 = tq78 98 18 ∧ s 98 13 = tq78 98 13 ∧ s 98 14 = tq78 98 14 ∧ s 98 5 = σ2 98 5 ∧ s 98 6 = σ2 98 6 ∧ s 98 7 = σ2 98 7 ∧ s 98 8 = H79 ∧ s 98 9 = σ2 98 9 ∧ s 101 18 = σ2 101 18 ∧ s 101 25 = σ2 101 25 ∧ s 101 43 = σ2 101 43 ∧ s = h_up tq78 98 8 H79) _ (if_98_8 Itq78 (by omega)) (Ftq78.up rfl) ⟨rfl, rfl, rfl, rfl, rfl, rfl, etq78_6, etq78_7, etq78_8, rfl, etq78_10, etq78_11, etq78_12, etq78_13, rfl⟩ (fun s80 Is80 Fs80 (es80 : s80 98 15 = tq78 98 15 ∧ s80 98 16 = tq78 98 16 ∧ s80 98 17 = tq78 98 17 ∧ s80 98 18 = tq78 98 18 ∧ s80 98 13 = tq78 98 13 ∧ s80 98 14 = tq78 98 14 ∧ s80 98 5 = σ2 98 5 ∧ s80 98 6 = σ2 98 6 ∧ s80 98 7 = σ2 98 7 ∧ s80 98 8 = H79 ∧ s80 98 9 = σ2 98 9 ∧ s80 101 18 = σ2 101 18 ∧ s80 101 25 = σ2 101 25 ∧ s80 101 43 = σ2 101 43 ∧ s80 = h_up tq78 98 8 H79) => ?_)))
          refine h_iload_n (pc' := 28) rfl rfl rfl ?_
          refine h_iret rfl rfl (d_ret hlv77 ?_)
          refine h_iast (pc' := 60) rfl rfl rfl rfl hz76 (by omega) (by omega) hq78m (h_fgt (E := fun s => s 98 15 = tq78 98 15 ∧ s 98 16 = tq78 98 16 ∧ s 98 17 = tq78 98 17 ∧ s 98 18 = tq78 98 18 ∧ s 98 13 = tq78 98 13 ∧ s 98 14 = tq78 98 14 ∧ s 98 5 = σ2 98 5 ∧ s 98 6 = σ2 98 6 ∧ s 98 7 = σ2 98 7 ∧ s 98 8 = H79 ∧ s 98 9 = σ2 98 9 ∧ s 101 18 = σ2 101 18 ∧ s 101 25 = σ2 101 25 ∧ s 101 43 = σ2 101 43 ∧ s = h_up s80 101 ((19 + (2 * c2)) + 1) bq78m) _ (ip_101_4 Is80 (by omega) (by omega)) (Fs80.up rfl) ⟨es80.1, es80.2.1, es80.2.2.1, es80.2.2.2.1, es80.2.2.2.2.1, es80.2.2.2.2.2.1, es80.2.2.2.2.2.2.1, es80.2.2.2.2.2.2.2.1, es80.2.2.2.2.2.2.2.2.1, es80.2.2.2.2.2.2.2.2.2.1, es80.2.2.2.2.2.2.2.2.2.2.1, h_up_n2 (by omega) es80.2.2.2.2.2.2.2.2.2.2.2.1, h_up_n2 (by omega) es80.2.2.2.2.2.2.2.2.2.2.2.2.1, h_up_n2 (by omega) es80.2.2.2.2.2.2.2.2.2.2.2.2.2.1, rfl⟩ (fun s81 Is81 Fs81 (es81 : s81 98 15 = tq78 98 15 ∧ s81 98 16 = tq78 98 16 ∧ s81 98 17 = tq78 98 17 ∧ s81 98 18 = tq78 98 18 ∧ s81 98 13 = tq78 98 13 ∧ s81 98 14 = tq78 98 14 ∧ s81 98 5 = σ2 98 5 ∧ s81 98 6 = σ2 98 6 ∧ s81 98 7 = σ2 98 7 ∧ s81 98 8 = H79 ∧ s81 98 9 = σ2 98 9 ∧ s81 101 18 = σ2 101 18 ∧ s81 101 25 = σ2 101 25 ∧ s81 101 43 = σ2 101 43 ∧ s81 = h_up s80 101 ((19 + (2 * c2)) + 1) bq78m) => ?_))
          clear hq78m hz76
          refine h_aload_n (pc' := 61) rfl rfl rfl ?_
          refine h_getR (pc' := 64) rfl rfl rfl rfl rfl ?_
          refine h_iload_n (pc' := 65) rfl rfl rfl ?_
          refine h_bipush (pc' := 67) (x := (Int32.ofInt 6)) rfl rfl cb_6 ?_
          refine h_iadd (pc' := 68) (c := 25) rfl rfl ci_19 ci_6 rfl (by omega) (by omega) (fun z82 hz82 => ?_)
          refine h_dup2 (pc' := 69) rfl rfl rfl ?_
          refine h_iald (pc' := 70) (v := σ2 101 25) rfl rfl rfl hz82 (by omega) (by omega) es81.2.2.2.2.2.2.2.2.2.2.2.2.1 (fun z83 hz83 => ?_)
          have tz83 := ty_101_5 hI2 25 (by omega)
          refine h_iconst (pc' := 71) (x := (Int32.ofInt 1)) rfl rfl rfl ?_
          refine h_iadd (pc' := 72) rfl rfl hz83 ci_1 rfl (by omega) (by omega) (fun z84 hz84 => ?_)
          clear hz83
          refine h_iast (pc' := 73) rfl rfl rfl rfl hz82 (by omega) (by omega) hz84 (h_fgt (E := fun s => s 98 15 = tq78 98 15 ∧ s 98 16 = tq78 98 16 ∧ s 98 17 = tq78 98 17 ∧ s 98 18 = tq78 98 18 ∧ s 98 13 = tq78 98 13 ∧ s 98 14 = tq78 98 14 ∧ s 98 5 = σ2 98 5 ∧ s 98 6 = σ2 98 6 ∧ s 98 7 = σ2 98 7 ∧ s 98 8 = H79 ∧ s 98 9 = σ2 98 9 ∧ s 101 18 = σ2 101 18 ∧ s 101 25 = ((σ2 101 25) + 1) ∧ s 101 43 = σ2 101 43 ∧ s = h_up s81 101 25 ((σ2 101 25) + 1)) _ (ip_101_5 Is81 (by omega) (by omega)) (Fs81.up rfl) ⟨es81.1, es81.2.1, es81.2.2.1, es81.2.2.2.1, es81.2.2.2.2.1, es81.2.2.2.2.2.1, es81.2.2.2.2.2.2.1, es81.2.2.2.2.2.2.2.1, es81.2.2.2.2.2.2.2.2.1, es81.2.2.2.2.2.2.2.2.2.1, es81.2.2.2.2.2.2.2.2.2.2.1, es81.2.2.2.2.2.2.2.2.2.2.2.1, rfl, es81.2.2.2.2.2.2.2.2.2.2.2.2.2.1, rfl⟩ (fun s85 Is85 Fs85 (es85 : s85 98 15 = tq78 98 15 ∧ s85 98 16 = tq78 98 16 ∧ s85 98 17 = tq78 98 17 ∧ s85 98 18 = tq78 98 18 ∧ s85 98 13 = tq78 98 13 ∧ s85 98 14 = tq78 98 14 ∧ s85 98 5 = σ2 98 5 ∧ s85 98 6 = σ2 98 6 ∧ s85 98 7 = σ2 98 7 ∧ s85 98 8 = H79 ∧ s85 98 9 = σ2 98 9 ∧ s85 101 18 = σ2 101 18 ∧ s85 101 25 = ((σ2 101 25) + 1) ∧ s85 101 43 = σ2 101 43 ∧ s85 = h_up s81 101 25 ((σ2 101 25) + 1)) => ?_))
          clear hz82
          refine d_toL (g_inj ns) hlw64 hRq78 (fun lvw86 memw86 hlw86 hRw86 => ?_)
          show h_T g_P (g_Y ns) 60 49 [(0, .ref 63), (1, .ref 72), (2, .int x2)] [.int rq78x] sq78 _
          refine h_istore_n (pc' := 50) (M := [(3, .int rq78x), (0, .ref 63), (1, .ref 72), (2, .int x2)]) rfl rfl rfl rfl ?_
          refine h_aload_n (pc' := 51) rfl rfl rfl ?_
          refine h_getI (pc' := 54) (v := sq78 63 2) rfl rfl rfl rfl rfl rfl (fun z87 hz87 => ?_)
          have tz87 := tf_63_2 Isq78
          refine h_zne (tg := 64) (pc' := 57) rfl rfl rfl hz87 (fun c88 => ?_) (fun c88 => absurd c88 (by omega))
          clear hz87
          exact h_wk [(0, .ref 63)] ⟨rfl, trivial⟩ (kx0 _ _ Isq78 Is85 Fsq78 Fs85 (by omega) (by omega) (by omega) (by omega) (by omega) (fun h => absurd h (by omega)) (Or.inl ⟨by omega, by omega, by omega, by omega⟩) _ _ (h_al_ok ⟨rfl, trivial⟩ hlw86) hRw86)
        · show h_T g_P (g_Y ns) 150 6 [(0, .ref 98)] [.int rq78m] tq78 _
          refine h_istore_n (pc' := 7) (M := [(1, .int rq78m), (0, .ref 98)]) rfl rfl rfl rfl ?_
          have oH89 : tq78 98 8 = σ2 98 8 := etq78_9
          have uH89 := tf_98_8 Itq78
          refine lm_hi _ Itq78 rq78m _ hq78m (by omega) (fun H89 hH89 => (h_fgt (E := fun s => s 98 15 = tq78 98 15 ∧ s 98 16 = tq78 98 16 ∧ s 98 17 = tq78 98 17 ∧ s 98 18 = tq78 98 18 ∧ s 98 13 = tq78 98 13 ∧ s 98 14 = tq78 98 14 ∧ s 98 5 = σ2 98 5 ∧ s 98 6 = σ2 98 6 ∧ s 98 7 = σ2 98 7 ∧ s 98 8 = H89 ∧ s 98 9 = σ2 98 9 ∧ s 101 18 = σ2 101 18 ∧ s 101 25 = σ2 101 25 ∧ s 101 43 = σ2 101 43 ∧ s = h_up tq78 98 8 H89) _ (if_98_8 Itq78 (by omega)) (Ftq78.up rfl) ⟨rfl, rfl, rfl, rfl, rfl, rfl, etq78_6, etq78_7, etq78_8, rfl, etq78_10, etq78_11, etq78_12, etq78_13, rfl⟩ (fun s90 Is90 Fs90 (es90 : s90 98 15 = tq78 98 15 ∧ s90 98 16 = tq78 98 16 ∧ s90 98 17 = tq78 98 17 ∧ s90 98 18 = tq78 98 18 ∧ s90 98 13 = tq78 98 13 ∧ s90 98 14 = tq78 98 14 ∧ s90 98 5 = σ2 98 5 ∧ s90 98 6 = σ2 98 6 ∧ s90 98 7 = σ2 98 7 ∧ s90 98 8 = H89 ∧ s90 98 9 = σ2 98 9 ∧ s90 101 18 = σ2 101 18 ∧ s90 101 25 = σ2 101 25 ∧ s90 101 43 = σ2 101 43 ∧ s90 = h_up tq78 98 8 H89) => ?_)))
          refine h_iload_n (pc' := 28) rfl rfl rfl ?_
          refine h_iret rfl rfl (d_ret hlv77 ?_)
          refine h_iast (pc' := 60) rfl rfl rfl rfl hz76 (by omega) (by omega) hq78m (h_fgt (E := fun s => s 98 15 = tq78 98 15 ∧ s 98 16 = tq78 98 16 ∧ s 98 17 = tq78 98 17 ∧ s 98 18 = tq78 98 18 ∧ s 98 13 = tq78 98 13 ∧ s 98 14 = tq78 98 14 ∧ s 98 5 = σ2 98 5 ∧ s 98 6 = σ2 98 6 ∧ s 98 7 = σ2 98 7 ∧ s 98 8 = H89 ∧ s 98 9 = σ2 98 9 ∧ s 101 18 = σ2 101 18 ∧ s 101 25 = σ2 101 25 ∧ s 101 43 = σ2 101 43 ∧ s = h_up s90 101 ((19 + (2 * c2)) + 1) bq78m) _ (ip_101_4 Is90 (by omega) (by omega)) (Fs90.up rfl) ⟨es90.1, es90.2.1, es90.2.2.1, es90.2.2.2.1, es90.2.2.2.2.1, es90.2.2.2.2.2.1, es90.2.2.2.2.2.2.1, es90.2.2.2.2.2.2.2.1, es90.2.2.2.2.2.2.2.2.1, es90.2.2.2.2.2.2.2.2.2.1, es90.2.2.2.2.2.2.2.2.2.2.1, h_up_n2 (by omega) es90.2.2.2.2.2.2.2.2.2.2.2.1, h_up_n2 (by omega) es90.2.2.2.2.2.2.2.2.2.2.2.2.1, h_up_n2 (by omega) es90.2.2.2.2.2.2.2.2.2.2.2.2.2.1, rfl⟩ (fun s91 Is91 Fs91 (es91 : s91 98 15 = tq78 98 15 ∧ s91 98 16 = tq78 98 16 ∧ s91 98 17 = tq78 98 17 ∧ s91 98 18 = tq78 98 18 ∧ s91 98 13 = tq78 98 13 ∧ s91 98 14 = tq78 98 14 ∧ s91 98 5 = σ2 98 5 ∧ s91 98 6 = σ2 98 6 ∧ s91 98 7 = σ2 98 7 ∧ s91 98 8 = H89 ∧ s91 98 9 = σ2 98 9 ∧ s91 101 18 = σ2 101 18 ∧ s91 101 25 = σ2 101 25 ∧ s91 101 43 = σ2 101 43 ∧ s91 = h_up s90 101 ((19 + (2 * c2)) + 1) bq78m) => ?_))
          clear hq78m hz76
          refine h_aload_n (pc' := 61) rfl rfl rfl ?_
          refine h_getR (pc' := 64) rfl rfl rfl rfl rfl ?_
          refine h_iload_n (pc' := 65) rfl rfl rfl ?_
          refine h_bipush (pc' := 67) (x := (Int32.ofInt 6)) rfl rfl cb_6 ?_
          refine h_iadd (pc' := 68) (c := 25) rfl rfl ci_19 ci_6 rfl (by omega) (by omega) (fun z92 hz92 => ?_)
          refine h_dup2 (pc' := 69) rfl rfl rfl ?_
          refine h_iald (pc' := 70) (v := σ2 101 25) rfl rfl rfl hz92 (by omega) (by omega) es91.2.2.2.2.2.2.2.2.2.2.2.2.1 (fun z93 hz93 => ?_)
          have tz93 := ty_101_5 hI2 25 (by omega)
          refine h_iconst (pc' := 71) (x := (Int32.ofInt 1)) rfl rfl rfl ?_
          refine h_iadd (pc' := 72) rfl rfl hz93 ci_1 rfl (by omega) (by omega) (fun z94 hz94 => ?_)
          clear hz93
          refine h_iast (pc' := 73) rfl rfl rfl rfl hz92 (by omega) (by omega) hz94 (h_fgt (E := fun s => s 98 15 = tq78 98 15 ∧ s 98 16 = tq78 98 16 ∧ s 98 17 = tq78 98 17 ∧ s 98 18 = tq78 98 18 ∧ s 98 13 = tq78 98 13 ∧ s 98 14 = tq78 98 14 ∧ s 98 5 = σ2 98 5 ∧ s 98 6 = σ2 98 6 ∧ s 98 7 = σ2 98 7 ∧ s 98 8 = H89 ∧ s 98 9 = σ2 98 9 ∧ s 101 18 = σ2 101 18 ∧ s 101 25 = ((σ2 101 25) + 1) ∧ s 101 43 = σ2 101 43 ∧ s = h_up s91 101 25 ((σ2 101 25) + 1)) _ (ip_101_5 Is91 (by omega) (by omega)) (Fs91.up rfl) ⟨es91.1, es91.2.1, es91.2.2.1, es91.2.2.2.1, es91.2.2.2.2.1, es91.2.2.2.2.2.1, es91.2.2.2.2.2.2.1, es91.2.2.2.2.2.2.2.1, es91.2.2.2.2.2.2.2.2.1, es91.2.2.2.2.2.2.2.2.2.1, es91.2.2.2.2.2.2.2.2.2.2.1, es91.2.2.2.2.2.2.2.2.2.2.2.1, rfl, es91.2.2.2.2.2.2.2.2.2.2.2.2.2.1, rfl⟩ (fun s95 Is95 Fs95 (es95 : s95 98 15 = tq78 98 15 ∧ s95 98 16 = tq78 98 16 ∧ s95 98 17 = tq78 98 17 ∧ s95 98 18 = tq78 98 18 ∧ s95 98 13 = tq78 98 13 ∧ s95 98 14 = tq78 98 14 ∧ s95 98 5 = σ2 98 5 ∧ s95 98 6 = σ2 98 6 ∧ s95 98 7 = σ2 98 7 ∧ s95 98 8 = H89 ∧ s95 98 9 = σ2 98 9 ∧ s95 101 18 = σ2 101 18 ∧ s95 101 25 = ((σ2 101 25) + 1) ∧ s95 101 43 = σ2 101 43 ∧ s95 = h_up s91 101 25 ((σ2 101 25) + 1)) => ?_))
          clear hz92
          refine d_toL (g_inj ns) hlw64 hRq78 (fun lvw96 memw96 hlw96 hRw96 => ?_)
          show h_T g_P (g_Y ns) 60 49 [(0, .ref 63), (1, .ref 72), (2, .int x2)] [.int rq78x] sq78 _
          refine h_istore_n (pc' := 50) (M := [(3, .int rq78x), (0, .ref 63), (1, .ref 72), (2, .int x2)]) rfl rfl rfl rfl ?_
          refine h_aload_n (pc' := 51) rfl rfl rfl ?_
          refine h_getI (pc' := 54) (v := sq78 63 2) rfl rfl rfl rfl rfl rfl (fun z97 hz97 => ?_)
          have tz97 := tf_63_2 Isq78
          refine h_zne (tg := 64) (pc' := 57) rfl rfl rfl hz97 (fun c98 => absurd c98 (by omega)) (fun c98 => ?_)
          clear hz97
          refine h_aload_n (pc' := 58) rfl rfl rfl ?_
          refine h_iload_n (pc' := 59) rfl rfl rfl ?_
          refine h_iload_n (pc' := 60) rfl rfl rfl ?_
          refine h_call (sp := false) (pc' := 63) (M := [(0, .ref 72), (1, .int x2), (2, .int rq78x)]) rfl rfl rfl rfl rfl rfl rfl rfl ?_
          refine h_aload_n (pc' := 1) rfl rfl rfl ?_
          refine h_call (sp := false) (pc' := 4) (M := [(0, .ref 72)]) rfl rfl rfl rfl rfl rfl rfl rfl ?_
          refine h_aload_n (pc' := 1) rfl rfl rfl ?_
          refine h_getI (pc' := 4) (v := σ1 72 2) rfl rfl rfl rfl rfl esq78_11 (fun z99 hz99 => ?_)
          have tz99 := tf_72_2 hI1
          refine h_iconst (pc' := 5) (x := (Int32.ofInt 3)) rfl rfl rfl ?_
          refine h_clt (tg := 12) (pc' := 8) rfl rfl rfl hz99 ci_3 (fun c100 => ?_) (fun c100 => absurd c100 (by omega))
          clear hz99
          refine h_iconst (pc' := 13) (x := (Int32.ofInt 0)) rfl rfl rfl ?_
          refine h_zret rfl rfl ci_0 (by omega) (h_Kv ?_)
          refine h_zeq (tg := 9) (pc' := 7) rfl rfl rfl ci_0 (fun c101 => ?_) (fun c101 => absurd c101 (by omega))
          refine h_aload_n (pc' := 10) rfl rfl rfl ?_
          refine h_getR (pc' := 13) rfl rfl rfl rfl rfl ?_
          refine h_aload_n (pc' := 14) rfl rfl rfl ?_
          refine h_getI (pc' := 17) (v := σ1 72 2) rfl rfl rfl rfl rfl esq78_11 (fun z102 hz102 => ?_)
          refine h_iload_n (pc' := 18) rfl rfl rfl ?_
          refine h_iast (pc' := 19) rfl rfl rfl rfl hz102 (by omega) (by omega) hx2 (h_fgt (E := fun s => s 64 2 = sq78 64 2 ∧ s 64 4 = sq78 64 4 ∧ s 64 3 = sq78 64 3 ∧ s 64 5 = sq78 64 5 ∧ s 63 2 = sq78 63 2 ∧ s 63 3 = sq78 63 3 ∧ s 64 1 = σ1 64 1 ∧ s 66 8 = σ1 66 8 ∧ s 66 9 = σ1 66 9 ∧ s 66 10 = σ1 66 10 ∧ s 69 2 = σ1 69 2 ∧ s 72 2 = σ1 72 2 ∧ s 63 5 = σ1 63 5 ∧ s = h_up sq78 73 (σ1 72 2) a2) _ (in_73 Isq78 (by omega)) (Fsq78.up rfl) ⟨rfl, rfl, rfl, rfl, rfl, rfl, esq78_6, esq78_7, esq78_8, esq78_9, esq78_10, esq78_11, esq78_12, rfl⟩ (fun s103 Is103 Fs103 (es103 : s103 64 2 = sq78 64 2 ∧ s103 64 4 = sq78 64 4 ∧ s103 64 3 = sq78 64 3 ∧ s103 64 5 = sq78 64 5 ∧ s103 63 2 = sq78 63 2 ∧ s103 63 3 = sq78 63 3 ∧ s103 64 1 = σ1 64 1 ∧ s103 66 8 = σ1 66 8 ∧ s103 66 9 = σ1 66 9 ∧ s103 66 10 = σ1 66 10 ∧ s103 69 2 = σ1 69 2 ∧ s103 72 2 = σ1 72 2 ∧ s103 63 5 = σ1 63 5 ∧ s103 = h_up sq78 73 (σ1 72 2) a2) => ?_))
          clear hz102
          refine h_aload_n (pc' := 20) rfl rfl rfl ?_
          refine h_getR (pc' := 23) rfl rfl rfl rfl rfl ?_
          refine h_aload_n (pc' := 24) rfl rfl rfl ?_
          refine h_getI (pc' := 27) (v := σ1 72 2) rfl rfl rfl rfl rfl es103.2.2.2.2.2.2.2.2.2.2.2.1 (fun z104 hz104 => ?_)
          refine h_iload_n (pc' := 28) rfl rfl rfl ?_
          refine h_iast (pc' := 29) rfl rfl rfl rfl hz104 (by omega) (by omega) hq78x (h_fgt (E := fun s => s 64 2 = sq78 64 2 ∧ s 64 4 = sq78 64 4 ∧ s 64 3 = sq78 64 3 ∧ s 64 5 = sq78 64 5 ∧ s 63 2 = sq78 63 2 ∧ s 63 3 = sq78 63 3 ∧ s 64 1 = σ1 64 1 ∧ s 66 8 = σ1 66 8 ∧ s 66 9 = σ1 66 9 ∧ s 66 10 = σ1 66 10 ∧ s 69 2 = σ1 69 2 ∧ s 72 2 = σ1 72 2 ∧ s 63 5 = σ1 63 5 ∧ s = h_up s103 74 (σ1 72 2) bq78x) _ (in_74 Is103 (by omega)) (Fs103.up rfl) ⟨es103.1, es103.2.1, es103.2.2.1, es103.2.2.2.1, es103.2.2.2.2.1, es103.2.2.2.2.2.1, es103.2.2.2.2.2.2.1, es103.2.2.2.2.2.2.2.1, es103.2.2.2.2.2.2.2.2.1, es103.2.2.2.2.2.2.2.2.2.1, es103.2.2.2.2.2.2.2.2.2.2.1, es103.2.2.2.2.2.2.2.2.2.2.2.1, es103.2.2.2.2.2.2.2.2.2.2.2.2.1, rfl⟩ (fun s105 Is105 Fs105 (es105 : s105 64 2 = sq78 64 2 ∧ s105 64 4 = sq78 64 4 ∧ s105 64 3 = sq78 64 3 ∧ s105 64 5 = sq78 64 5 ∧ s105 63 2 = sq78 63 2 ∧ s105 63 3 = sq78 63 3 ∧ s105 64 1 = σ1 64 1 ∧ s105 66 8 = σ1 66 8 ∧ s105 66 9 = σ1 66 9 ∧ s105 66 10 = σ1 66 10 ∧ s105 69 2 = σ1 69 2 ∧ s105 72 2 = σ1 72 2 ∧ s105 63 5 = σ1 63 5 ∧ s105 = h_up s103 74 (σ1 72 2) bq78x) => ?_))
          clear hz104
          refine h_aload_n (pc' := 30) rfl rfl rfl ?_
          refine h_dup (pc' := 31) rfl rfl rfl ?_
          refine h_getI (pc' := 34) (v := σ1 72 2) rfl rfl rfl rfl rfl es105.2.2.2.2.2.2.2.2.2.2.2.1 (fun z106 hz106 => ?_)
          refine h_iconst (pc' := 35) (x := (Int32.ofInt 1)) rfl rfl rfl ?_
          refine h_iadd (pc' := 36) rfl rfl hz106 ci_1 rfl (by omega) (by omega) (fun z107 hz107 => ?_)
          clear hz106
          refine h_put (pc' := 39) rfl rfl rfl rfl rfl rfl hz107 rfl (h_fgt (E := fun s => s 64 2 = sq78 64 2 ∧ s 64 4 = sq78 64 4 ∧ s 64 3 = sq78 64 3 ∧ s 64 5 = sq78 64 5 ∧ s 63 2 = sq78 63 2 ∧ s 63 3 = sq78 63 3 ∧ s 64 1 = σ1 64 1 ∧ s 66 8 = σ1 66 8 ∧ s 66 9 = σ1 66 9 ∧ s 66 10 = σ1 66 10 ∧ s 69 2 = σ1 69 2 ∧ s 72 2 = ((σ1 72 2) + 1) ∧ s 63 5 = σ1 63 5 ∧ s = h_up s105 72 2 ((σ1 72 2) + 1)) _ (if_72_2 Is105 (by omega)) (Fs105.up rfl) ⟨es105.1, es105.2.1, es105.2.2.1, es105.2.2.2.1, es105.2.2.2.2.1, es105.2.2.2.2.2.1, es105.2.2.2.2.2.2.1, es105.2.2.2.2.2.2.2.1, es105.2.2.2.2.2.2.2.2.1, es105.2.2.2.2.2.2.2.2.2.1, es105.2.2.2.2.2.2.2.2.2.2.1, rfl, es105.2.2.2.2.2.2.2.2.2.2.2.2.1, rfl⟩ (fun s108 Is108 Fs108 (es108 : s108 64 2 = sq78 64 2 ∧ s108 64 4 = sq78 64 4 ∧ s108 64 3 = sq78 64 3 ∧ s108 64 5 = sq78 64 5 ∧ s108 63 2 = sq78 63 2 ∧ s108 63 3 = sq78 63 3 ∧ s108 64 1 = σ1 64 1 ∧ s108 66 8 = σ1 66 8 ∧ s108 66 9 = σ1 66 9 ∧ s108 66 10 = σ1 66 10 ∧ s108 69 2 = σ1 69 2 ∧ s108 72 2 = ((σ1 72 2) + 1) ∧ s108 63 5 = σ1 63 5 ∧ s108 = h_up s105 72 2 ((σ1 72 2) + 1)) => ?_))
          refine h_iconst (pc' := 40) (x := (Int32.ofInt 1)) rfl rfl rfl ?_
          refine h_zret rfl rfl ci_1 (by omega) (h_Kv ?_)
          refine h_pop (pc' := 64) rfl rfl rfl ?_
          exact h_wk [(0, .ref 63)] ⟨rfl, trivial⟩ (kx0 _ _ Is108 Is95 Fs108 Fs95 (by omega) (by omega) (by omega) (by omega) (by omega) (fun _ => d_mk (es108.2.2.2.2.2.2.2.1) (es108.2.2.2.2.2.2.2.2.1) (es108.2.2.2.2.2.2.2.2.2.1) (es108.2.2.2.2.2.2.2.2.2.2.1) (es108.2.2.2.2.2.2.2.2.2.2.2.1) (es108.2.2.2.2.2.2.2.2.2.2.2.2.1) (fun j => (h_upo es108.2.2.2.2.2.2.2.2.2.2.2.2.2 rfl j).trans ((h_upo es105.2.2.2.2.2.2.2.2.2.2.2.2.2 rfl j).trans ((h_upo es103.2.2.2.2.2.2.2.2.2.2.2.2.2 rfl j).trans ((Gsq78 67 j rfl))))) (fun j => (h_upo es108.2.2.2.2.2.2.2.2.2.2.2.2.2 rfl j).trans ((h_upo es105.2.2.2.2.2.2.2.2.2.2.2.2.2 rfl j).trans ((h_upo es103.2.2.2.2.2.2.2.2.2.2.2.2.2 rfl j).trans ((Gsq78 68 j rfl))))) (fun j => (h_upo es108.2.2.2.2.2.2.2.2.2.2.2.2.2 rfl j).trans ((h_upo es105.2.2.2.2.2.2.2.2.2.2.2.2.2 rfl j).trans ((h_upo es103.2.2.2.2.2.2.2.2.2.2.2.2.2 rfl j).trans ((Gsq78 70 j rfl))))) (fun j => (h_upo es108.2.2.2.2.2.2.2.2.2.2.2.2.2 rfl j).trans ((h_upo es105.2.2.2.2.2.2.2.2.2.2.2.2.2 rfl j).trans ((h_upo es103.2.2.2.2.2.2.2.2.2.2.2.2.2 rfl j).trans ((Gsq78 71 j rfl))))) (fun j => (h_upo es108.2.2.2.2.2.2.2.2.2.2.2.2.2 rfl j).trans ((h_upo es105.2.2.2.2.2.2.2.2.2.2.2.2.2 rfl j).trans ((h_upi es103.2.2.2.2.2.2.2.2.2.2.2.2.2 j).trans (congrArg (fun z => if j = (σ1 72 2) then a2 else z) ((Gsq78 73 j rfl)))))) (fun j => (h_upo es108.2.2.2.2.2.2.2.2.2.2.2.2.2 rfl j).trans ((h_upi es105.2.2.2.2.2.2.2.2.2.2.2.2.2 j).trans (congrArg (fun z => if j = (σ1 72 2) then bq78x else z) ((h_upo es103.2.2.2.2.2.2.2.2.2.2.2.2.2 rfl j).trans ((Gsq78 74 j rfl)))))) (fun j => (h_upo es108.2.2.2.2.2.2.2.2.2.2.2.2.2 rfl j).trans ((h_upo es105.2.2.2.2.2.2.2.2.2.2.2.2.2 rfl j).trans ((h_upo es103.2.2.2.2.2.2.2.2.2.2.2.2.2 rfl j).trans ((Gsq78 75 j rfl))))) (fun j => (h_upo es108.2.2.2.2.2.2.2.2.2.2.2.2.2 rfl j).trans ((h_upo es105.2.2.2.2.2.2.2.2.2.2.2.2.2 rfl j).trans ((h_upo es103.2.2.2.2.2.2.2.2.2.2.2.2.2 rfl j).trans ((Gsq78 76 j rfl))))) (fun j => (h_upo es108.2.2.2.2.2.2.2.2.2.2.2.2.2 rfl j).trans ((h_upo es105.2.2.2.2.2.2.2.2.2.2.2.2.2 rfl j).trans ((h_upo es103.2.2.2.2.2.2.2.2.2.2.2.2.2 rfl j).trans ((Gsq78 77 j rfl))))) (fun j => (h_upo es108.2.2.2.2.2.2.2.2.2.2.2.2.2 rfl j).trans ((h_upo es105.2.2.2.2.2.2.2.2.2.2.2.2.2 rfl j).trans ((h_upo es103.2.2.2.2.2.2.2.2.2.2.2.2.2 rfl j).trans ((Gsq78 78 j rfl))))) (es95.2.2.2.2.2.2.1) (es95.2.2.2.2.2.2.2.1) (es95.2.2.2.2.2.2.2.2.1) (es95.2.2.2.2.2.2.2.2.2.1) (es95.2.2.2.2.2.2.2.2.2.2.1) (fun j => (h_upi es95.2.2.2.2.2.2.2.2.2.2.2.2.2.2 j).trans (congrArg (fun z => if j = 25 then ((σ2 101 25) + 1) else z) ((h_upi es91.2.2.2.2.2.2.2.2.2.2.2.2.2.2 j).trans (congrArg (fun z => if j = ((19 + (2 * c2)) + 1) then bq78m else z) ((h_upo es90.2.2.2.2.2.2.2.2.2.2.2.2.2.2 rfl j).trans ((Gtq78 101 j rfl).trans ((h_upi es73.2.2.2.2.2.2.2.2.2.2.2.2.2.2 j)))))))) (r_feu pr10 (by omega) (by omega) (by omega) (by omega) (by omega) (by omega) (by omega) (by omega) (by omega) (by omega) (by omega) (by omega) (by omega) (by omega) (by omega) (by omega) (by omega))) (pcq78.elim (fun pcq78 => (Or.inr (Or.inl ⟨by omega, by omega, by omega, by omega, by omega, by omega⟩))) (fun pcq78 => (pcq78.elim (fun pcq78 => (Or.inr (Or.inr (Or.inl ⟨by omega, by omega, by omega, by omega, by omega, by omega⟩)))) (fun pcq78 => (pcq78.elim (fun pcq78 => (Or.inr (Or.inr (Or.inr (Or.inl ⟨by omega, by omega, by omega, by omega, by omega, by omega, by omega, by omega, by omega⟩))))) (fun pcq78 => (Or.inr (Or.inr (Or.inr (Or.inr ⟨by omega, by omega, by omega, by omega, by omega, by omega⟩)))))))))) _ _ (h_al_ok ⟨rfl, trivial⟩ hlw96) hRw96)
      · clear hz69
        refine h_aload_n (pc' := 29) rfl rfl rfl ?_
        refine h_iconst (pc' := 30) (x := (Int32.ofInt 3)) rfl rfl rfl ?_
        refine h_call (sp := false) (pc' := 33) (M := [(0, .ref 98), (1, .int (Int32.ofInt 3))]) rfl rfl rfl rfl rfl rfl rfl rfl ?_
        refine h_aload_n (pc' := 1) rfl rfl rfl ?_
        refine h_getI (pc' := 4) (v := σ2 98 13) rfl rfl rfl rfl rfl rfl (fun z109 hz109 => ?_)
        refine h_zne (tg := 20) (pc' := 7) rfl rfl rfl hz109 (fun c110 => absurd c110 (by omega)) (fun c110 => ?_)
        clear hz109
        refine h_aload_n (pc' := 8) rfl rfl rfl ?_
        refine h_iload_n (pc' := 9) rfl rfl rfl ?_
        refine h_put (pc' := 12) rfl rfl rfl rfl rfl rfl ci_3 rfl (h_fgt (E := fun s => s 98 15 = σ2 98 15 ∧ s 98 16 = σ2 98 16 ∧ s 98 17 = σ2 98 17 ∧ s 98 18 = σ2 98 18 ∧ s 98 13 = 3 ∧ s 98 14 = σ2 98 14 ∧ s 98 5 = σ2 98 5 ∧ s 98 6 = σ2 98 6 ∧ s 98 7 = σ2 98 7 ∧ s 98 8 = σ2 98 8 ∧ s 98 9 = σ2 98 9 ∧ s 101 18 = σ2 101 18 ∧ s 101 25 = σ2 101 25 ∧ s 101 43 = σ2 101 43 ∧ s = h_up σ2 98 13 3) _ (if_98_13 hI2 (by omega)) (F2.up rfl) ⟨rfl, rfl, rfl, rfl, rfl, rfl, rfl, rfl, rfl, rfl, rfl, rfl, rfl, rfl, rfl⟩ (fun s111 Is111 Fs111 (es111 : s111 98 15 = σ2 98 15 ∧ s111 98 16 = σ2 98 16 ∧ s111 98 17 = σ2 98 17 ∧ s111 98 18 = σ2 98 18 ∧ s111 98 13 = 3 ∧ s111 98 14 = σ2 98 14 ∧ s111 98 5 = σ2 98 5 ∧ s111 98 6 = σ2 98 6 ∧ s111 98 7 = σ2 98 7 ∧ s111 98 8 = σ2 98 8 ∧ s111 98 9 = σ2 98 9 ∧ s111 101 18 = σ2 101 18 ∧ s111 101 25 = σ2 101 25 ∧ s111 101 43 = σ2 101 43 ∧ s111 = h_up σ2 98 13 3) => ?_))
        refine h_aload_n (pc' := 13) rfl rfl rfl ?_
        refine h_aload_n (pc' := 14) rfl rfl rfl ?_
        refine h_getI (pc' := 17) (v := σ2 98 16) rfl rfl rfl rfl rfl es111.2.1 (fun z112 hz112 => ?_)
        have tz112 := tf_98_16 hI2
        refine h_put (pc' := 20) rfl rfl rfl rfl rfl rfl hz112 rfl (h_fgt (E := fun s => s 98 15 = σ2 98 15 ∧ s 98 16 = σ2 98 16 ∧ s 98 17 = σ2 98 17 ∧ s 98 18 = σ2 98 18 ∧ s 98 13 = 3 ∧ s 98 14 = (σ2 98 16) ∧ s 98 5 = σ2 98 5 ∧ s 98 6 = σ2 98 6 ∧ s 98 7 = σ2 98 7 ∧ s 98 8 = σ2 98 8 ∧ s 98 9 = σ2 98 9 ∧ s 101 18 = σ2 101 18 ∧ s 101 25 = σ2 101 25 ∧ s 101 43 = σ2 101 43 ∧ s = h_up s111 98 14 (σ2 98 16)) _ (if_98_14 Is111 (h_rgv hz112)) (Fs111.up rfl) ⟨es111.1, es111.2.1, es111.2.2.1, es111.2.2.2.1, es111.2.2.2.2.1, rfl, es111.2.2.2.2.2.2.1, es111.2.2.2.2.2.2.2.1, es111.2.2.2.2.2.2.2.2.1, es111.2.2.2.2.2.2.2.2.2.1, es111.2.2.2.2.2.2.2.2.2.2.1, es111.2.2.2.2.2.2.2.2.2.2.2.1, es111.2.2.2.2.2.2.2.2.2.2.2.2.1, es111.2.2.2.2.2.2.2.2.2.2.2.2.2.1, rfl⟩ (fun s113 Is113 Fs113 (es113 : s113 98 15 = σ2 98 15 ∧ s113 98 16 = σ2 98 16 ∧ s113 98 17 = σ2 98 17 ∧ s113 98 18 = σ2 98 18 ∧ s113 98 13 = 3 ∧ s113 98 14 = (σ2 98 16) ∧ s113 98 5 = σ2 98 5 ∧ s113 98 6 = σ2 98 6 ∧ s113 98 7 = σ2 98 7 ∧ s113 98 8 = σ2 98 8 ∧ s113 98 9 = σ2 98 9 ∧ s113 101 18 = σ2 101 18 ∧ s113 101 25 = σ2 101 25 ∧ s113 101 43 = σ2 101 43 ∧ s113 = h_up s111 98 14 (σ2 98 16)) => ?_))
        refine h_vret rfl rfl (h_Kn ?_)
        refine h_aload_n (pc' := 34) rfl rfl rfl ?_
        refine h_getR (pc' := 37) rfl rfl rfl rfl rfl ?_
        refine h_iload_n (pc' := 38) rfl rfl rfl ?_
        refine h_iconst (pc' := 39) (x := (Int32.ofInt 2)) rfl rfl rfl ?_
        refine h_iload_n (pc' := 40) rfl rfl rfl ?_
        refine h_imul (pc' := 41) rfl rfl ci_2 hy2 rfl (by omega) (by omega) (fun z114 hz114 => ?_)
        refine h_iadd (pc' := 42) rfl rfl ci_19 hz114 rfl (by omega) (by omega) (fun z115 hz115 => ?_)
        clear hz114
        refine h_iload_n (pc' := 43) rfl rfl rfl ?_
        refine h_iast (pc' := 44) rfl rfl rfl rfl hz115 (by omega) (by omega) hy3 (h_fgt (E := fun s => s 98 15 = σ2 98 15 ∧ s 98 16 = σ2 98 16 ∧ s 98 17 = σ2 98 17 ∧ s 98 18 = σ2 98 18 ∧ s 98 13 = 3 ∧ s 98 14 = (σ2 98 16) ∧ s 98 5 = σ2 98 5 ∧ s 98 6 = σ2 98 6 ∧ s 98 7 = σ2 98 7 ∧ s 98 8 = σ2 98 8 ∧ s 98 9 = σ2 98 9 ∧ s 101 18 = σ2 101 18 ∧ s 101 25 = σ2 101 25 ∧ s 101 43 = σ2 101 43 ∧ s = h_up s113 101 (19 + (2 * c2)) c3) _ (ip_101_4 Is113 (by omega) (by omega)) (Fs113.up rfl) ⟨es113.1, es113.2.1, es113.2.2.1, es113.2.2.2.1, es113.2.2.2.2.1, es113.2.2.2.2.2.1, es113.2.2.2.2.2.2.1, es113.2.2.2.2.2.2.2.1, es113.2.2.2.2.2.2.2.2.1, es113.2.2.2.2.2.2.2.2.2.1, es113.2.2.2.2.2.2.2.2.2.2.1, h_up_n2 (by omega) es113.2.2.2.2.2.2.2.2.2.2.2.1, h_up_n2 (by omega) es113.2.2.2.2.2.2.2.2.2.2.2.2.1, h_up_n2 (by omega) es113.2.2.2.2.2.2.2.2.2.2.2.2.2.1, rfl⟩ (fun s116 Is116 Fs116 (es116 : s116 98 15 = σ2 98 15 ∧ s116 98 16 = σ2 98 16 ∧ s116 98 17 = σ2 98 17 ∧ s116 98 18 = σ2 98 18 ∧ s116 98 13 = 3 ∧ s116 98 14 = (σ2 98 16) ∧ s116 98 5 = σ2 98 5 ∧ s116 98 6 = σ2 98 6 ∧ s116 98 7 = σ2 98 7 ∧ s116 98 8 = σ2 98 8 ∧ s116 98 9 = σ2 98 9 ∧ s116 101 18 = σ2 101 18 ∧ s116 101 25 = σ2 101 25 ∧ s116 101 43 = σ2 101 43 ∧ s116 = h_up s113 101 (19 + (2 * c2)) c3) => ?_))
        clear hz115
        refine h_aload_n (pc' := 45) rfl rfl rfl ?_
        refine h_getR (pc' := 48) rfl rfl rfl rfl rfl ?_
        refine h_iload_n (pc' := 49) rfl rfl rfl ?_
        refine h_iconst (pc' := 50) (x := (Int32.ofInt 2)) rfl rfl rfl ?_
        refine h_iload_n (pc' := 51) rfl rfl rfl ?_
        refine h_imul (pc' := 52) rfl rfl ci_2 hy2 rfl (by omega) (by omega) (fun z117 hz117 => ?_)
        refine h_iadd (pc' := 53) rfl rfl ci_19 hz117 rfl (by omega) (by omega) (fun z118 hz118 => ?_)
        clear hz117
        refine h_iconst (pc' := 54) (x := (Int32.ofInt 1)) rfl rfl rfl ?_
        refine h_iadd (pc' := 55) rfl rfl hz118 ci_1 rfl (by omega) (by omega) (fun z119 hz119 => ?_)
        clear hz118
        refine h_aload_n (pc' := 56) rfl rfl rfl ?_
        refine d_call (g_inj ns) (pc' := 59) (m := 150) (M := [(0, .ref 98)]) (rest := [.int z119, .ref 101]) ⟨false, _, _, _, _, _, _, rfl, rfl, rfl, rfl, rfl, rfl, rfl⟩ (fun lv120 hlv120 => ?_)
        refine h_aload_n (pc' := 1) rfl rfl rfl ?_
        refine h_iconst (pc' := 2) (x := (Int32.ofInt 0)) rfl rfl rfl ?_
        refine h_iconst (pc' := 3) (x := (Int32.ofInt 5)) rfl rfl rfl ?_
        refine h_call (sp := false) (pc' := 6) (M := [(0, .ref 98), (1, .int (Int32.ofInt 0)), (2, .int (Int32.ofInt 5))]) rfl rfl rfl rfl rfl rfl rfl rfl ?_
        refine h_aload_n (pc' := 1) rfl rfl rfl ?_
        refine h_getI (pc' := 4) (v := 3) rfl rfl rfl rfl rfl es116.2.2.2.2.1 (fun z121 hz121 => ?_)
        refine h_zne (tg := 20) (pc' := 7) rfl rfl rfl hz121 (fun c122 => ?_) (fun c122 => absurd c122 (by omega))
        clear hz121
        refine h_aload_n (pc' := 21) rfl rfl rfl ?_
        refine h_getI (pc' := 24) (v := 3) rfl rfl rfl rfl rfl es116.2.2.2.2.1 (fun z123 hz123 => ?_)
        refine h_zne (tg := 47) (pc' := 27) rfl rfl rfl hz123 (fun c124 => ?_) (fun c124 => absurd c124 (by omega))
        clear hz123
        refine h_aload_n (pc' := 48) rfl rfl rfl ?_
        refine h_getI (pc' := 51) (v := 3) rfl rfl rfl rfl rfl es116.2.2.2.2.1 (fun z125 hz125 => ?_)
        refine h_zne (tg := 61) (pc' := 54) rfl rfl rfl hz125 (fun c126 => ?_) (fun c126 => absurd c126 (by omega))
        clear hz125
        refine h_iload_n (pc' := 62) rfl rfl rfl ?_
        refine h_istore_n (pc' := 63) (M := [(3, .int (Int32.ofInt 0)), (0, .ref 98), (1, .int (Int32.ofInt 0)), (2, .int (Int32.ofInt 5))]) rfl rfl rfl rfl ?_
        refine h_aload_n (pc' := 64) rfl rfl rfl ?_
        refine h_call (sp := false) (pc' := 67) (M := [(0, .ref 98)]) rfl rfl rfl rfl rfl rfl rfl rfl ?_
        refine h_aload_n (pc' := 1) rfl rfl rfl ?_
        refine h_getI (pc' := 4) (v := 3) rfl rfl rfl rfl rfl es116.2.2.2.2.1 (fun z127 hz127 => ?_)
        refine h_zle (tg := 8) (pc' := 7) rfl rfl rfl hz127 (fun c128 => absurd c128 (by omega)) (fun c128 => ?_)
        clear hz127
        refine h_vret rfl rfl (h_Kn ?_)
        refine h_iload_n (pc' := 68) rfl rfl rfl ?_
        refine h_iret rfl rfl (h_Kv ?_)
        refine h_istore_n (pc' := 7) (M := [(1, .int (Int32.ofInt 0)), (0, .ref 98)]) rfl rfl rfl rfl ?_
        have oH129 : s116 98 8 = σ2 98 8 := es116.2.2.2.2.2.2.2.2.2.1
        have uH129 := tf_98_8 Is116
        refine lm_hi _ Is116 (Int32.ofInt 0) _ ci_0 (by omega) (fun H129 hH129 => (h_fgt (E := fun s => s 98 15 = σ2 98 15 ∧ s 98 16 = σ2 98 16 ∧ s 98 17 = σ2 98 17 ∧ s 98 18 = σ2 98 18 ∧ s 98 13 = 3 ∧ s 98 14 = (σ2 98 16) ∧ s 98 5 = σ2 98 5 ∧ s 98 6 = σ2 98 6 ∧ s 98 7 = σ2 98 7 ∧ s 98 8 = H129 ∧ s 98 9 = σ2 98 9 ∧ s 101 18 = σ2 101 18 ∧ s 101 25 = σ2 101 25 ∧ s 101 43 = σ2 101 43 ∧ s = h_up s116 98 8 H129) _ (if_98_8 Is116 (by omega)) (Fs116.up rfl) ⟨es116.1, es116.2.1, es116.2.2.1, es116.2.2.2.1, es116.2.2.2.2.1, es116.2.2.2.2.2.1, es116.2.2.2.2.2.2.1, es116.2.2.2.2.2.2.2.1, es116.2.2.2.2.2.2.2.2.1, rfl, es116.2.2.2.2.2.2.2.2.2.2.1, es116.2.2.2.2.2.2.2.2.2.2.2.1, es116.2.2.2.2.2.2.2.2.2.2.2.2.1, es116.2.2.2.2.2.2.2.2.2.2.2.2.2.1, rfl⟩ (fun s130 Is130 Fs130 (es130 : s130 98 15 = σ2 98 15 ∧ s130 98 16 = σ2 98 16 ∧ s130 98 17 = σ2 98 17 ∧ s130 98 18 = σ2 98 18 ∧ s130 98 13 = 3 ∧ s130 98 14 = (σ2 98 16) ∧ s130 98 5 = σ2 98 5 ∧ s130 98 6 = σ2 98 6 ∧ s130 98 7 = σ2 98 7 ∧ s130 98 8 = H129 ∧ s130 98 9 = σ2 98 9 ∧ s130 101 18 = σ2 101 18 ∧ s130 101 25 = σ2 101 25 ∧ s130 101 43 = σ2 101 43 ∧ s130 = h_up s116 98 8 H129) => ?_)))
        refine h_iload_n (pc' := 28) rfl rfl rfl ?_
        refine h_iret rfl rfl (d_ret hlv120 ?_)
        refine h_iast (pc' := 60) rfl rfl rfl rfl hz119 (by omega) (by omega) ci_0 (h_fgt (E := fun s => s 98 15 = σ2 98 15 ∧ s 98 16 = σ2 98 16 ∧ s 98 17 = σ2 98 17 ∧ s 98 18 = σ2 98 18 ∧ s 98 13 = 3 ∧ s 98 14 = (σ2 98 16) ∧ s 98 5 = σ2 98 5 ∧ s 98 6 = σ2 98 6 ∧ s 98 7 = σ2 98 7 ∧ s 98 8 = H129 ∧ s 98 9 = σ2 98 9 ∧ s 101 18 = σ2 101 18 ∧ s 101 25 = σ2 101 25 ∧ s 101 43 = σ2 101 43 ∧ s = h_up s130 101 ((19 + (2 * c2)) + 1) 0) _ (ip_101_4 Is130 (by omega) (by omega)) (Fs130.up rfl) ⟨es130.1, es130.2.1, es130.2.2.1, es130.2.2.2.1, es130.2.2.2.2.1, es130.2.2.2.2.2.1, es130.2.2.2.2.2.2.1, es130.2.2.2.2.2.2.2.1, es130.2.2.2.2.2.2.2.2.1, es130.2.2.2.2.2.2.2.2.2.1, es130.2.2.2.2.2.2.2.2.2.2.1, h_up_n2 (by omega) es130.2.2.2.2.2.2.2.2.2.2.2.1, h_up_n2 (by omega) es130.2.2.2.2.2.2.2.2.2.2.2.2.1, h_up_n2 (by omega) es130.2.2.2.2.2.2.2.2.2.2.2.2.2.1, rfl⟩ (fun s131 Is131 Fs131 (es131 : s131 98 15 = σ2 98 15 ∧ s131 98 16 = σ2 98 16 ∧ s131 98 17 = σ2 98 17 ∧ s131 98 18 = σ2 98 18 ∧ s131 98 13 = 3 ∧ s131 98 14 = (σ2 98 16) ∧ s131 98 5 = σ2 98 5 ∧ s131 98 6 = σ2 98 6 ∧ s131 98 7 = σ2 98 7 ∧ s131 98 8 = H129 ∧ s131 98 9 = σ2 98 9 ∧ s131 101 18 = σ2 101 18 ∧ s131 101 25 = σ2 101 25 ∧ s131 101 43 = σ2 101 43 ∧ s131 = h_up s130 101 ((19 + (2 * c2)) + 1) 0) => ?_))
        clear hz119
        refine h_aload_n (pc' := 61) rfl rfl rfl ?_
        refine h_getR (pc' := 64) rfl rfl rfl rfl rfl ?_
        refine h_iload_n (pc' := 65) rfl rfl rfl ?_
        refine h_bipush (pc' := 67) (x := (Int32.ofInt 6)) rfl rfl cb_6 ?_
        refine h_iadd (pc' := 68) (c := 25) rfl rfl ci_19 ci_6 rfl (by omega) (by omega) (fun z132 hz132 => ?_)
        refine h_dup2 (pc' := 69) rfl rfl rfl ?_
        refine h_iald (pc' := 70) (v := σ2 101 25) rfl rfl rfl hz132 (by omega) (by omega) es131.2.2.2.2.2.2.2.2.2.2.2.2.1 (fun z133 hz133 => ?_)
        have tz133 := ty_101_5 hI2 25 (by omega)
        refine h_iconst (pc' := 71) (x := (Int32.ofInt 1)) rfl rfl rfl ?_
        refine h_iadd (pc' := 72) rfl rfl hz133 ci_1 rfl (by omega) (by omega) (fun z134 hz134 => ?_)
        clear hz133
        refine h_iast (pc' := 73) rfl rfl rfl rfl hz132 (by omega) (by omega) hz134 (h_fgt (E := fun s => s 98 15 = σ2 98 15 ∧ s 98 16 = σ2 98 16 ∧ s 98 17 = σ2 98 17 ∧ s 98 18 = σ2 98 18 ∧ s 98 13 = 3 ∧ s 98 14 = (σ2 98 16) ∧ s 98 5 = σ2 98 5 ∧ s 98 6 = σ2 98 6 ∧ s 98 7 = σ2 98 7 ∧ s 98 8 = H129 ∧ s 98 9 = σ2 98 9 ∧ s 101 18 = σ2 101 18 ∧ s 101 25 = ((σ2 101 25) + 1) ∧ s 101 43 = σ2 101 43 ∧ s = h_up s131 101 25 ((σ2 101 25) + 1)) _ (ip_101_5 Is131 (by omega) (by omega)) (Fs131.up rfl) ⟨es131.1, es131.2.1, es131.2.2.1, es131.2.2.2.1, es131.2.2.2.2.1, es131.2.2.2.2.2.1, es131.2.2.2.2.2.2.1, es131.2.2.2.2.2.2.2.1, es131.2.2.2.2.2.2.2.2.1, es131.2.2.2.2.2.2.2.2.2.1, es131.2.2.2.2.2.2.2.2.2.2.1, es131.2.2.2.2.2.2.2.2.2.2.2.1, rfl, es131.2.2.2.2.2.2.2.2.2.2.2.2.2.1, rfl⟩ (fun s135 Is135 Fs135 (es135 : s135 98 15 = σ2 98 15 ∧ s135 98 16 = σ2 98 16 ∧ s135 98 17 = σ2 98 17 ∧ s135 98 18 = σ2 98 18 ∧ s135 98 13 = 3 ∧ s135 98 14 = (σ2 98 16) ∧ s135 98 5 = σ2 98 5 ∧ s135 98 6 = σ2 98 6 ∧ s135 98 7 = σ2 98 7 ∧ s135 98 8 = H129 ∧ s135 98 9 = σ2 98 9 ∧ s135 101 18 = σ2 101 18 ∧ s135 101 25 = ((σ2 101 25) + 1) ∧ s135 101 43 = σ2 101 43 ∧ s135 = h_up s131 101 25 ((σ2 101 25) + 1)) => ?_))
        clear hz132
        exfalso
        omega
    · clear hz62
      refine h_aload_n (pc' := 33) rfl rfl rfl ?_
      refine h_iconst (pc' := 34) (x := (Int32.ofInt 3)) rfl rfl rfl ?_
      refine h_aload_n (pc' := 35) rfl rfl rfl ?_
      refine h_getR (pc' := 38) rfl rfl rfl rfl rfl ?_
      refine h_getI (pc' := 41) (v := σ1 64 4) rfl rfl rfl rfl rfl rfl (fun z136 hz136 => ?_)
      have tz136 := tf_64_4 hI1
      refine h_call (sp := false) (pc' := 44) (M := [(0, .ref 63), (1, .int (Int32.ofInt 3)), (2, .int z136)]) rfl rfl rfl rfl rfl rfl rfl rfl ?_
      refine h_aload_n (pc' := 1) rfl rfl rfl ?_
      refine h_getI (pc' := 4) (v := σ1 63 2) rfl rfl rfl rfl rfl rfl (fun z137 hz137 => ?_)
      refine h_zne (tg := 17) (pc' := 7) rfl rfl rfl hz137 (fun c138 => absurd c138 (by omega)) (fun c138 => ?_)
      clear hz137
      refine h_aload_n (pc' := 8) rfl rfl rfl ?_
      refine h_iload_n (pc' := 9) rfl rfl rfl ?_
      refine h_put (pc' := 12) rfl rfl rfl rfl rfl rfl ci_3 rfl (h_fgt (E := fun s => s 64 2 = σ1 64 2 ∧ s 64 4 = σ1 64 4 ∧ s 64 3 = σ1 64 3 ∧ s 64 5 = σ1 64 5 ∧ s 63 2 = 3 ∧ s 63 3 = σ1 63 3 ∧ s 64 1 = σ1 64 1 ∧ s 66 8 = σ1 66 8 ∧ s 66 9 = σ1 66 9 ∧ s 66 10 = σ1 66 10 ∧ s 69 2 = σ1 69 2 ∧ s 72 2 = σ1 72 2 ∧ s 63 5 = σ1 63 5 ∧ s = h_up σ1 63 2 3) _ (if_63_2 hI1 (by omega)) (F1.up rfl) ⟨rfl, rfl, rfl, rfl, rfl, rfl, rfl, rfl, rfl, rfl, rfl, rfl, rfl, rfl⟩ (fun s139 Is139 Fs139 (es139 : s139 64 2 = σ1 64 2 ∧ s139 64 4 = σ1 64 4 ∧ s139 64 3 = σ1 64 3 ∧ s139 64 5 = σ1 64 5 ∧ s139 63 2 = 3 ∧ s139 63 3 = σ1 63 3 ∧ s139 64 1 = σ1 64 1 ∧ s139 66 8 = σ1 66 8 ∧ s139 66 9 = σ1 66 9 ∧ s139 66 10 = σ1 66 10 ∧ s139 69 2 = σ1 69 2 ∧ s139 72 2 = σ1 72 2 ∧ s139 63 5 = σ1 63 5 ∧ s139 = h_up σ1 63 2 3) => ?_))
      refine h_aload_n (pc' := 13) rfl rfl rfl ?_
      refine h_iload_n (pc' := 14) rfl rfl rfl ?_
      refine h_put (pc' := 17) rfl rfl rfl rfl rfl rfl hz136 rfl (h_fgt (E := fun s => s 64 2 = σ1 64 2 ∧ s 64 4 = σ1 64 4 ∧ s 64 3 = σ1 64 3 ∧ s 64 5 = σ1 64 5 ∧ s 63 2 = 3 ∧ s 63 3 = (σ1 64 4) ∧ s 64 1 = σ1 64 1 ∧ s 66 8 = σ1 66 8 ∧ s 66 9 = σ1 66 9 ∧ s 66 10 = σ1 66 10 ∧ s 69 2 = σ1 69 2 ∧ s 72 2 = σ1 72 2 ∧ s 63 5 = σ1 63 5 ∧ s = h_up s139 63 3 (σ1 64 4)) _ (if_63_3 Is139 (h_rgv hz136)) (Fs139.up rfl) ⟨es139.1, es139.2.1, es139.2.2.1, es139.2.2.2.1, es139.2.2.2.2.1, rfl, es139.2.2.2.2.2.2.1, es139.2.2.2.2.2.2.2.1, es139.2.2.2.2.2.2.2.2.1, es139.2.2.2.2.2.2.2.2.2.1, es139.2.2.2.2.2.2.2.2.2.2.1, es139.2.2.2.2.2.2.2.2.2.2.2.1, es139.2.2.2.2.2.2.2.2.2.2.2.2.1, rfl⟩ (fun s140 Is140 Fs140 (es140 : s140 64 2 = σ1 64 2 ∧ s140 64 4 = σ1 64 4 ∧ s140 64 3 = σ1 64 3 ∧ s140 64 5 = σ1 64 5 ∧ s140 63 2 = 3 ∧ s140 63 3 = (σ1 64 4) ∧ s140 64 1 = σ1 64 1 ∧ s140 66 8 = σ1 66 8 ∧ s140 66 9 = σ1 66 9 ∧ s140 66 10 = σ1 66 10 ∧ s140 69 2 = σ1 69 2 ∧ s140 72 2 = σ1 72 2 ∧ s140 63 5 = σ1 63 5 ∧ s140 = h_up s139 63 3 (σ1 64 4)) => ?_))
      refine h_vret rfl rfl (h_Kn ?_)
      refine h_aload_n (pc' := 45) rfl rfl rfl ?_
      refine h_iconst (pc' := 46) (x := (Int32.ofInt 5)) rfl rfl rfl ?_
      refine h_call (sp := false) (pc' := 49) (M := [(0, .ref 63), (1, .int (Int32.ofInt 5))]) rfl rfl rfl rfl rfl rfl rfl rfl ?_
      refine h_aload_n (pc' := 1) rfl rfl rfl ?_
      refine h_getI (pc' := 4) (v := 3) rfl rfl rfl rfl rfl es140.2.2.2.2.1 (fun z141 hz141 => ?_)
      refine h_zne (tg := 30) (pc' := 7) rfl rfl rfl hz141 (fun c142 => ?_) (fun c142 => absurd c142 (by omega))
      clear hz141
      refine h_aload_n (pc' := 31) rfl rfl rfl ?_
      refine h_getI (pc' := 34) (v := 3) rfl rfl rfl rfl rfl es140.2.2.2.2.1 (fun z143 hz143 => ?_)
      refine h_zne (tg := 60) (pc' := 37) rfl rfl rfl hz143 (fun c144 => ?_) (fun c144 => absurd c144 (by omega))
      clear hz143
      refine h_aload_n (pc' := 61) rfl rfl rfl ?_
      refine h_getR (pc' := 64) rfl rfl rfl rfl rfl ?_
      refine h_getI (pc' := 67) (v := σ1 64 5) rfl rfl rfl rfl rfl es140.2.2.2.1 (fun z145 hz145 => ?_)
      refine h_istore_n (pc' := 68) (M := [(2, .int z145), (0, .ref 63), (1, .int (Int32.ofInt 5))]) rfl rfl rfl rfl ?_
      refine h_aload_n (pc' := 69) rfl rfl rfl ?_
      refine h_call (sp := false) (pc' := 72) (M := [(0, .ref 63)]) rfl rfl rfl rfl rfl rfl rfl rfl ?_
      refine h_aload_n (pc' := 1) rfl rfl rfl ?_
      refine h_getI (pc' := 4) (v := 3) rfl rfl rfl rfl rfl es140.2.2.2.2.1 (fun z146 hz146 => ?_)
      refine h_zne (tg := 37) (pc' := 7) rfl rfl rfl hz146 (fun c147 => ?_) (fun c147 => absurd c147 (by omega))
      clear hz146
      refine h_vret rfl rfl (h_Kn ?_)
      refine h_iload_n (pc' := 73) rfl rfl rfl ?_
      refine h_iret rfl rfl (h_Kv ?_)
      refine h_istore_n (pc' := 50) (M := [(3, .int z145), (0, .ref 63), (1, .ref 72), (2, .int x2)]) rfl rfl rfl rfl ?_
      refine h_aload_n (pc' := 51) rfl rfl rfl ?_
      refine h_getI (pc' := 54) (v := 3) rfl rfl rfl rfl rfl es140.2.2.2.2.1 (fun z148 hz148 => ?_)
      refine h_zne (tg := 64) (pc' := 57) rfl rfl rfl hz148 (fun c149 => ?_) (fun c149 => absurd c149 (by omega))
      clear hz148
      refine d_toM (g_inj ns) hl2 hR2 (fun lvw150 memw150 hlw150 hRw150 => ?_)
      show h_T g_P (g_Y ns) 151 5 [(0, .ref 98), (1, .int (Int32.ofInt 19)), (2, .int y2), (3, .int y3)] [] σ2 _
      refine h_aload_n (pc' := 6) rfl rfl rfl ?_
      refine h_getI (pc' := 9) (v := σ2 98 13) rfl rfl rfl rfl rfl rfl (fun z151 hz151 => ?_)
      have tz151 := tf_98_13 hI2
      refine h_zne (tg := 33) (pc' := 12) rfl rfl rfl hz151 (fun c152 => absurd c152 (by omega)) (fun c152 => ?_)
      clear hz151
      refine h_aload_n (pc' := 13) rfl rfl rfl ?_
      refine h_getI (pc' := 16) (v := σ2 98 17) rfl rfl rfl rfl rfl rfl (fun z153 hz153 => ?_)
      have tz153 := tf_98_17 hI2
      refine h_iconst (pc' := 17) (x := (Int32.ofInt 2)) rfl rfl rfl ?_
      refine h_cne (tg := 33) (pc' := 20) rfl rfl rfl hz153 ci_2 (fun c154 => absurd c154 (by omega)) (fun c154 => ?_)
      clear hz153
      refine h_aload_n (pc' := 21) rfl rfl rfl ?_
      refine h_getI (pc' := 24) (v := σ2 98 18) rfl rfl rfl rfl rfl rfl (fun z155 hz155 => ?_)
      have tz155 := tf_98_18 hI2
      refine h_iload_n (pc' := 25) rfl rfl rfl ?_
      refine h_cne (tg := 33) (pc' := 28) rfl rfl rfl hz155 hy3 (fun c156 => ?_) (fun c156 => ?_)
      · clear hz155
        refine h_aload_n (pc' := 34) rfl rfl rfl ?_
        refine h_getR (pc' := 37) rfl rfl rfl rfl rfl ?_
        refine h_iload_n (pc' := 38) rfl rfl rfl ?_
        refine h_iconst (pc' := 39) (x := (Int32.ofInt 2)) rfl rfl rfl ?_
        refine h_iload_n (pc' := 40) rfl rfl rfl ?_
        refine h_imul (pc' := 41) rfl rfl ci_2 hy2 rfl (by omega) (by omega) (fun z157 hz157 => ?_)
        refine h_iadd (pc' := 42) rfl rfl ci_19 hz157 rfl (by omega) (by omega) (fun z158 hz158 => ?_)
        clear hz157
        refine h_iload_n (pc' := 43) rfl rfl rfl ?_
        refine h_iast (pc' := 44) rfl rfl rfl rfl hz158 (by omega) (by omega) hy3 (h_fgt (E := fun s => s 98 15 = σ2 98 15 ∧ s 98 16 = σ2 98 16 ∧ s 98 17 = σ2 98 17 ∧ s 98 18 = σ2 98 18 ∧ s 98 13 = σ2 98 13 ∧ s 98 14 = σ2 98 14 ∧ s 98 5 = σ2 98 5 ∧ s 98 6 = σ2 98 6 ∧ s 98 7 = σ2 98 7 ∧ s 98 8 = σ2 98 8 ∧ s 98 9 = σ2 98 9 ∧ s 101 18 = σ2 101 18 ∧ s 101 25 = σ2 101 25 ∧ s 101 43 = σ2 101 43 ∧ s = h_up σ2 101 (19 + (2 * c2)) c3) _ (ip_101_4 hI2 (by omega) (by omega)) (F2.up rfl) ⟨rfl, rfl, rfl, rfl, rfl, rfl, rfl, rfl, rfl, rfl, rfl, h_up_n2 (by omega) rfl, h_up_n2 (by omega) rfl, h_up_n2 (by omega) rfl, rfl⟩ (fun s159 Is159 Fs159 (es159 : s159 98 15 = σ2 98 15 ∧ s159 98 16 = σ2 98 16 ∧ s159 98 17 = σ2 98 17 ∧ s159 98 18 = σ2 98 18 ∧ s159 98 13 = σ2 98 13 ∧ s159 98 14 = σ2 98 14 ∧ s159 98 5 = σ2 98 5 ∧ s159 98 6 = σ2 98 6 ∧ s159 98 7 = σ2 98 7 ∧ s159 98 8 = σ2 98 8 ∧ s159 98 9 = σ2 98 9 ∧ s159 101 18 = σ2 101 18 ∧ s159 101 25 = σ2 101 25 ∧ s159 101 43 = σ2 101 43 ∧ s159 = h_up σ2 101 (19 + (2 * c2)) c3) => ?_))
        clear hz158
        refine h_aload_n (pc' := 45) rfl rfl rfl ?_
        refine h_getR (pc' := 48) rfl rfl rfl rfl rfl ?_
        refine h_iload_n (pc' := 49) rfl rfl rfl ?_
        refine h_iconst (pc' := 50) (x := (Int32.ofInt 2)) rfl rfl rfl ?_
        refine h_iload_n (pc' := 51) rfl rfl rfl ?_
        refine h_imul (pc' := 52) rfl rfl ci_2 hy2 rfl (by omega) (by omega) (fun z160 hz160 => ?_)
        refine h_iadd (pc' := 53) rfl rfl ci_19 hz160 rfl (by omega) (by omega) (fun z161 hz161 => ?_)
        clear hz160
        refine h_iconst (pc' := 54) (x := (Int32.ofInt 1)) rfl rfl rfl ?_
        refine h_iadd (pc' := 55) rfl rfl hz161 ci_1 rfl (by omega) (by omega) (fun z162 hz162 => ?_)
        clear hz161
        refine h_aload_n (pc' := 56) rfl rfl rfl ?_
        refine d_call (g_inj ns) (pc' := 59) (m := 150) (M := [(0, .ref 98)]) (rest := [.int z162, .ref 101]) ⟨false, _, _, _, _, _, _, rfl, rfl, rfl, rfl, rfl, rfl, rfl⟩ (fun lv163 hlv163 => ?_)
        refine h_aload_n (pc' := 1) rfl rfl rfl ?_
        refine h_iconst (pc' := 2) (x := (Int32.ofInt 0)) rfl rfl rfl ?_
        refine h_iconst (pc' := 3) (x := (Int32.ofInt 5)) rfl rfl rfl ?_
        exfalso
        omega
      · clear hz155
        refine h_aload_n (pc' := 29) rfl rfl rfl ?_
        refine h_iconst (pc' := 30) (x := (Int32.ofInt 3)) rfl rfl rfl ?_
        refine h_call (sp := false) (pc' := 33) (M := [(0, .ref 98), (1, .int (Int32.ofInt 3))]) rfl rfl rfl rfl rfl rfl rfl rfl ?_
        refine h_aload_n (pc' := 1) rfl rfl rfl ?_
        refine h_getI (pc' := 4) (v := σ2 98 13) rfl rfl rfl rfl rfl rfl (fun z164 hz164 => ?_)
        refine h_zne (tg := 20) (pc' := 7) rfl rfl rfl hz164 (fun c165 => absurd c165 (by omega)) (fun c165 => ?_)
        clear hz164
        refine h_aload_n (pc' := 8) rfl rfl rfl ?_
        refine h_iload_n (pc' := 9) rfl rfl rfl ?_
        refine h_put (pc' := 12) rfl rfl rfl rfl rfl rfl ci_3 rfl (h_fgt (E := fun s => s 98 15 = σ2 98 15 ∧ s 98 16 = σ2 98 16 ∧ s 98 17 = σ2 98 17 ∧ s 98 18 = σ2 98 18 ∧ s 98 13 = 3 ∧ s 98 14 = σ2 98 14 ∧ s 98 5 = σ2 98 5 ∧ s 98 6 = σ2 98 6 ∧ s 98 7 = σ2 98 7 ∧ s 98 8 = σ2 98 8 ∧ s 98 9 = σ2 98 9 ∧ s 101 18 = σ2 101 18 ∧ s 101 25 = σ2 101 25 ∧ s 101 43 = σ2 101 43 ∧ s = h_up σ2 98 13 3) _ (if_98_13 hI2 (by omega)) (F2.up rfl) ⟨rfl, rfl, rfl, rfl, rfl, rfl, rfl, rfl, rfl, rfl, rfl, rfl, rfl, rfl, rfl⟩ (fun s166 Is166 Fs166 (es166 : s166 98 15 = σ2 98 15 ∧ s166 98 16 = σ2 98 16 ∧ s166 98 17 = σ2 98 17 ∧ s166 98 18 = σ2 98 18 ∧ s166 98 13 = 3 ∧ s166 98 14 = σ2 98 14 ∧ s166 98 5 = σ2 98 5 ∧ s166 98 6 = σ2 98 6 ∧ s166 98 7 = σ2 98 7 ∧ s166 98 8 = σ2 98 8 ∧ s166 98 9 = σ2 98 9 ∧ s166 101 18 = σ2 101 18 ∧ s166 101 25 = σ2 101 25 ∧ s166 101 43 = σ2 101 43 ∧ s166 = h_up σ2 98 13 3) => ?_))
        refine h_aload_n (pc' := 13) rfl rfl rfl ?_
        refine h_aload_n (pc' := 14) rfl rfl rfl ?_
        refine h_getI (pc' := 17) (v := σ2 98 16) rfl rfl rfl rfl rfl es166.2.1 (fun z167 hz167 => ?_)
        have tz167 := tf_98_16 hI2
        refine h_put (pc' := 20) rfl rfl rfl rfl rfl rfl hz167 rfl (h_fgt (E := fun s => s 98 15 = σ2 98 15 ∧ s 98 16 = σ2 98 16 ∧ s 98 17 = σ2 98 17 ∧ s 98 18 = σ2 98 18 ∧ s 98 13 = 3 ∧ s 98 14 = (σ2 98 16) ∧ s 98 5 = σ2 98 5 ∧ s 98 6 = σ2 98 6 ∧ s 98 7 = σ2 98 7 ∧ s 98 8 = σ2 98 8 ∧ s 98 9 = σ2 98 9 ∧ s 101 18 = σ2 101 18 ∧ s 101 25 = σ2 101 25 ∧ s 101 43 = σ2 101 43 ∧ s = h_up s166 98 14 (σ2 98 16)) _ (if_98_14 Is166 (h_rgv hz167)) (Fs166.up rfl) ⟨es166.1, es166.2.1, es166.2.2.1, es166.2.2.2.1, es166.2.2.2.2.1, rfl, es166.2.2.2.2.2.2.1, es166.2.2.2.2.2.2.2.1, es166.2.2.2.2.2.2.2.2.1, es166.2.2.2.2.2.2.2.2.2.1, es166.2.2.2.2.2.2.2.2.2.2.1, es166.2.2.2.2.2.2.2.2.2.2.2.1, es166.2.2.2.2.2.2.2.2.2.2.2.2.1, es166.2.2.2.2.2.2.2.2.2.2.2.2.2.1, rfl⟩ (fun s168 Is168 Fs168 (es168 : s168 98 15 = σ2 98 15 ∧ s168 98 16 = σ2 98 16 ∧ s168 98 17 = σ2 98 17 ∧ s168 98 18 = σ2 98 18 ∧ s168 98 13 = 3 ∧ s168 98 14 = (σ2 98 16) ∧ s168 98 5 = σ2 98 5 ∧ s168 98 6 = σ2 98 6 ∧ s168 98 7 = σ2 98 7 ∧ s168 98 8 = σ2 98 8 ∧ s168 98 9 = σ2 98 9 ∧ s168 101 18 = σ2 101 18 ∧ s168 101 25 = σ2 101 25 ∧ s168 101 43 = σ2 101 43 ∧ s168 = h_up s166 98 14 (σ2 98 16)) => ?_))
        refine h_vret rfl rfl (h_Kn ?_)
        refine h_aload_n (pc' := 34) rfl rfl rfl ?_
        refine h_getR (pc' := 37) rfl rfl rfl rfl rfl ?_
        refine h_iload_n (pc' := 38) rfl rfl rfl ?_
        refine h_iconst (pc' := 39) (x := (Int32.ofInt 2)) rfl rfl rfl ?_
        refine h_iload_n (pc' := 40) rfl rfl rfl ?_
        refine h_imul (pc' := 41) rfl rfl ci_2 hy2 rfl (by omega) (by omega) (fun z169 hz169 => ?_)
        refine h_iadd (pc' := 42) rfl rfl ci_19 hz169 rfl (by omega) (by omega) (fun z170 hz170 => ?_)
        clear hz169
        refine h_iload_n (pc' := 43) rfl rfl rfl ?_
        refine h_iast (pc' := 44) rfl rfl rfl rfl hz170 (by omega) (by omega) hy3 (h_fgt (E := fun s => s 98 15 = σ2 98 15 ∧ s 98 16 = σ2 98 16 ∧ s 98 17 = σ2 98 17 ∧ s 98 18 = σ2 98 18 ∧ s 98 13 = 3 ∧ s 98 14 = (σ2 98 16) ∧ s 98 5 = σ2 98 5 ∧ s 98 6 = σ2 98 6 ∧ s 98 7 = σ2 98 7 ∧ s 98 8 = σ2 98 8 ∧ s 98 9 = σ2 98 9 ∧ s 101 18 = σ2 101 18 ∧ s 101 25 = σ2 101 25 ∧ s 101 43 = σ2 101 43 ∧ s = h_up s168 101 (19 + (2 * c2)) c3) _ (ip_101_4 Is168 (by omega) (by omega)) (Fs168.up rfl) ⟨es168.1, es168.2.1, es168.2.2.1, es168.2.2.2.1, es168.2.2.2.2.1, es168.2.2.2.2.2.1, es168.2.2.2.2.2.2.1, es168.2.2.2.2.2.2.2.1, es168.2.2.2.2.2.2.2.2.1, es168.2.2.2.2.2.2.2.2.2.1, es168.2.2.2.2.2.2.2.2.2.2.1, h_up_n2 (by omega) es168.2.2.2.2.2.2.2.2.2.2.2.1, h_up_n2 (by omega) es168.2.2.2.2.2.2.2.2.2.2.2.2.1, h_up_n2 (by omega) es168.2.2.2.2.2.2.2.2.2.2.2.2.2.1, rfl⟩ (fun s171 Is171 Fs171 (es171 : s171 98 15 = σ2 98 15 ∧ s171 98 16 = σ2 98 16 ∧ s171 98 17 = σ2 98 17 ∧ s171 98 18 = σ2 98 18 ∧ s171 98 13 = 3 ∧ s171 98 14 = (σ2 98 16) ∧ s171 98 5 = σ2 98 5 ∧ s171 98 6 = σ2 98 6 ∧ s171 98 7 = σ2 98 7 ∧ s171 98 8 = σ2 98 8 ∧ s171 98 9 = σ2 98 9 ∧ s171 101 18 = σ2 101 18 ∧ s171 101 25 = σ2 101 25 ∧ s171 101 43 = σ2 101 43 ∧ s171 = h_up s168 101 (19 + (2 * c2)) c3) => ?_))
        clear hz170
        refine h_aload_n (pc' := 45) rfl rfl rfl ?_
        refine h_getR (pc' := 48) rfl rfl rfl rfl rfl ?_
        refine h_iload_n (pc' := 49) rfl rfl rfl ?_
        refine h_iconst (pc' := 50) (x := (Int32.ofInt 2)) rfl rfl rfl ?_
        refine h_iload_n (pc' := 51) rfl rfl rfl ?_
        refine h_imul (pc' := 52) rfl rfl ci_2 hy2 rfl (by omega) (by omega) (fun z172 hz172 => ?_)
        refine h_iadd (pc' := 53) rfl rfl ci_19 hz172 rfl (by omega) (by omega) (fun z173 hz173 => ?_)
        clear hz172
        refine h_iconst (pc' := 54) (x := (Int32.ofInt 1)) rfl rfl rfl ?_
        refine h_iadd (pc' := 55) rfl rfl hz173 ci_1 rfl (by omega) (by omega) (fun z174 hz174 => ?_)
        clear hz173
        refine h_aload_n (pc' := 56) rfl rfl rfl ?_
        refine d_call (g_inj ns) (pc' := 59) (m := 150) (M := [(0, .ref 98)]) (rest := [.int z174, .ref 101]) ⟨false, _, _, _, _, _, _, rfl, rfl, rfl, rfl, rfl, rfl, rfl⟩ (fun lv175 hlv175 => ?_)
        refine h_aload_n (pc' := 1) rfl rfl rfl ?_
        refine h_iconst (pc' := 2) (x := (Int32.ofInt 0)) rfl rfl rfl ?_
        refine h_iconst (pc' := 3) (x := (Int32.ofInt 5)) rfl rfl rfl ?_
        refine h_call (sp := false) (pc' := 6) (M := [(0, .ref 98), (1, .int (Int32.ofInt 0)), (2, .int (Int32.ofInt 5))]) rfl rfl rfl rfl rfl rfl rfl rfl ?_
        refine h_aload_n (pc' := 1) rfl rfl rfl ?_
        refine h_getI (pc' := 4) (v := 3) rfl rfl rfl rfl rfl es171.2.2.2.2.1 (fun z176 hz176 => ?_)
        refine h_zne (tg := 20) (pc' := 7) rfl rfl rfl hz176 (fun c177 => ?_) (fun c177 => absurd c177 (by omega))
        clear hz176
        refine h_aload_n (pc' := 21) rfl rfl rfl ?_
        refine h_getI (pc' := 24) (v := 3) rfl rfl rfl rfl rfl es171.2.2.2.2.1 (fun z178 hz178 => ?_)
        refine h_zne (tg := 47) (pc' := 27) rfl rfl rfl hz178 (fun c179 => ?_) (fun c179 => absurd c179 (by omega))
        clear hz178
        refine h_aload_n (pc' := 48) rfl rfl rfl ?_
        refine h_getI (pc' := 51) (v := 3) rfl rfl rfl rfl rfl es171.2.2.2.2.1 (fun z180 hz180 => ?_)
        refine h_zne (tg := 61) (pc' := 54) rfl rfl rfl hz180 (fun c181 => ?_) (fun c181 => absurd c181 (by omega))
        clear hz180
        refine h_iload_n (pc' := 62) rfl rfl rfl ?_
        refine h_istore_n (pc' := 63) (M := [(3, .int (Int32.ofInt 0)), (0, .ref 98), (1, .int (Int32.ofInt 0)), (2, .int (Int32.ofInt 5))]) rfl rfl rfl rfl ?_
        refine h_aload_n (pc' := 64) rfl rfl rfl ?_
        refine h_call (sp := false) (pc' := 67) (M := [(0, .ref 98)]) rfl rfl rfl rfl rfl rfl rfl rfl ?_
        refine h_aload_n (pc' := 1) rfl rfl rfl ?_
        refine h_getI (pc' := 4) (v := 3) rfl rfl rfl rfl rfl es171.2.2.2.2.1 (fun z182 hz182 => ?_)
        refine h_zle (tg := 8) (pc' := 7) rfl rfl rfl hz182 (fun c183 => absurd c183 (by omega)) (fun c183 => ?_)
        clear hz182
        refine h_vret rfl rfl (h_Kn ?_)
        refine h_iload_n (pc' := 68) rfl rfl rfl ?_
        refine h_iret rfl rfl (h_Kv ?_)
        refine h_istore_n (pc' := 7) (M := [(1, .int (Int32.ofInt 0)), (0, .ref 98)]) rfl rfl rfl rfl ?_
        have oH184 : s171 98 8 = σ2 98 8 := es171.2.2.2.2.2.2.2.2.2.1
        have uH184 := tf_98_8 Is171
        refine lm_hi _ Is171 (Int32.ofInt 0) _ ci_0 (by omega) (fun H184 hH184 => (h_fgt (E := fun s => s 98 15 = σ2 98 15 ∧ s 98 16 = σ2 98 16 ∧ s 98 17 = σ2 98 17 ∧ s 98 18 = σ2 98 18 ∧ s 98 13 = 3 ∧ s 98 14 = (σ2 98 16) ∧ s 98 5 = σ2 98 5 ∧ s 98 6 = σ2 98 6 ∧ s 98 7 = σ2 98 7 ∧ s 98 8 = H184 ∧ s 98 9 = σ2 98 9 ∧ s 101 18 = σ2 101 18 ∧ s 101 25 = σ2 101 25 ∧ s 101 43 = σ2 101 43 ∧ s = h_up s171 98 8 H184) _ (if_98_8 Is171 (by omega)) (Fs171.up rfl) ⟨es171.1, es171.2.1, es171.2.2.1, es171.2.2.2.1, es171.2.2.2.2.1, es171.2.2.2.2.2.1, es171.2.2.2.2.2.2.1, es171.2.2.2.2.2.2.2.1, es171.2.2.2.2.2.2.2.2.1, rfl, es171.2.2.2.2.2.2.2.2.2.2.1, es171.2.2.2.2.2.2.2.2.2.2.2.1, es171.2.2.2.2.2.2.2.2.2.2.2.2.1, es171.2.2.2.2.2.2.2.2.2.2.2.2.2.1, rfl⟩ (fun s185 Is185 Fs185 (es185 : s185 98 15 = σ2 98 15 ∧ s185 98 16 = σ2 98 16 ∧ s185 98 17 = σ2 98 17 ∧ s185 98 18 = σ2 98 18 ∧ s185 98 13 = 3 ∧ s185 98 14 = (σ2 98 16) ∧ s185 98 5 = σ2 98 5 ∧ s185 98 6 = σ2 98 6 ∧ s185 98 7 = σ2 98 7 ∧ s185 98 8 = H184 ∧ s185 98 9 = σ2 98 9 ∧ s185 101 18 = σ2 101 18 ∧ s185 101 25 = σ2 101 25 ∧ s185 101 43 = σ2 101 43 ∧ s185 = h_up s171 98 8 H184) => ?_)))
        refine h_iload_n (pc' := 28) rfl rfl rfl ?_
        refine h_iret rfl rfl (d_ret hlv175 ?_)
        refine h_iast (pc' := 60) rfl rfl rfl rfl hz174 (by omega) (by omega) ci_0 (h_fgt (E := fun s => s 98 15 = σ2 98 15 ∧ s 98 16 = σ2 98 16 ∧ s 98 17 = σ2 98 17 ∧ s 98 18 = σ2 98 18 ∧ s 98 13 = 3 ∧ s 98 14 = (σ2 98 16) ∧ s 98 5 = σ2 98 5 ∧ s 98 6 = σ2 98 6 ∧ s 98 7 = σ2 98 7 ∧ s 98 8 = H184 ∧ s 98 9 = σ2 98 9 ∧ s 101 18 = σ2 101 18 ∧ s 101 25 = σ2 101 25 ∧ s 101 43 = σ2 101 43 ∧ s = h_up s185 101 ((19 + (2 * c2)) + 1) 0) _ (ip_101_4 Is185 (by omega) (by omega)) (Fs185.up rfl) ⟨es185.1, es185.2.1, es185.2.2.1, es185.2.2.2.1, es185.2.2.2.2.1, es185.2.2.2.2.2.1, es185.2.2.2.2.2.2.1, es185.2.2.2.2.2.2.2.1, es185.2.2.2.2.2.2.2.2.1, es185.2.2.2.2.2.2.2.2.2.1, es185.2.2.2.2.2.2.2.2.2.2.1, h_up_n2 (by omega) es185.2.2.2.2.2.2.2.2.2.2.2.1, h_up_n2 (by omega) es185.2.2.2.2.2.2.2.2.2.2.2.2.1, h_up_n2 (by omega) es185.2.2.2.2.2.2.2.2.2.2.2.2.2.1, rfl⟩ (fun s186 Is186 Fs186 (es186 : s186 98 15 = σ2 98 15 ∧ s186 98 16 = σ2 98 16 ∧ s186 98 17 = σ2 98 17 ∧ s186 98 18 = σ2 98 18 ∧ s186 98 13 = 3 ∧ s186 98 14 = (σ2 98 16) ∧ s186 98 5 = σ2 98 5 ∧ s186 98 6 = σ2 98 6 ∧ s186 98 7 = σ2 98 7 ∧ s186 98 8 = H184 ∧ s186 98 9 = σ2 98 9 ∧ s186 101 18 = σ2 101 18 ∧ s186 101 25 = σ2 101 25 ∧ s186 101 43 = σ2 101 43 ∧ s186 = h_up s185 101 ((19 + (2 * c2)) + 1) 0) => ?_))
        clear hz174
        refine h_aload_n (pc' := 61) rfl rfl rfl ?_
        refine h_getR (pc' := 64) rfl rfl rfl rfl rfl ?_
        refine h_iload_n (pc' := 65) rfl rfl rfl ?_
        refine h_bipush (pc' := 67) (x := (Int32.ofInt 6)) rfl rfl cb_6 ?_
        refine h_iadd (pc' := 68) (c := 25) rfl rfl ci_19 ci_6 rfl (by omega) (by omega) (fun z187 hz187 => ?_)
        refine h_dup2 (pc' := 69) rfl rfl rfl ?_
        refine h_iald (pc' := 70) (v := σ2 101 25) rfl rfl rfl hz187 (by omega) (by omega) es186.2.2.2.2.2.2.2.2.2.2.2.2.1 (fun z188 hz188 => ?_)
        have tz188 := ty_101_5 hI2 25 (by omega)
        refine h_iconst (pc' := 71) (x := (Int32.ofInt 1)) rfl rfl rfl ?_
        refine h_iadd (pc' := 72) rfl rfl hz188 ci_1 rfl (by omega) (by omega) (fun z189 hz189 => ?_)
        clear hz188
        refine h_iast (pc' := 73) rfl rfl rfl rfl hz187 (by omega) (by omega) hz189 (h_fgt (E := fun s => s 98 15 = σ2 98 15 ∧ s 98 16 = σ2 98 16 ∧ s 98 17 = σ2 98 17 ∧ s 98 18 = σ2 98 18 ∧ s 98 13 = 3 ∧ s 98 14 = (σ2 98 16) ∧ s 98 5 = σ2 98 5 ∧ s 98 6 = σ2 98 6 ∧ s 98 7 = σ2 98 7 ∧ s 98 8 = H184 ∧ s 98 9 = σ2 98 9 ∧ s 101 18 = σ2 101 18 ∧ s 101 25 = ((σ2 101 25) + 1) ∧ s 101 43 = σ2 101 43 ∧ s = h_up s186 101 25 ((σ2 101 25) + 1)) _ (ip_101_5 Is186 (by omega) (by omega)) (Fs186.up rfl) ⟨es186.1, es186.2.1, es186.2.2.1, es186.2.2.2.1, es186.2.2.2.2.1, es186.2.2.2.2.2.1, es186.2.2.2.2.2.2.1, es186.2.2.2.2.2.2.2.1, es186.2.2.2.2.2.2.2.2.1, es186.2.2.2.2.2.2.2.2.2.1, es186.2.2.2.2.2.2.2.2.2.2.1, es186.2.2.2.2.2.2.2.2.2.2.2.1, rfl, es186.2.2.2.2.2.2.2.2.2.2.2.2.2.1, rfl⟩ (fun s190 Is190 Fs190 (es190 : s190 98 15 = σ2 98 15 ∧ s190 98 16 = σ2 98 16 ∧ s190 98 17 = σ2 98 17 ∧ s190 98 18 = σ2 98 18 ∧ s190 98 13 = 3 ∧ s190 98 14 = (σ2 98 16) ∧ s190 98 5 = σ2 98 5 ∧ s190 98 6 = σ2 98 6 ∧ s190 98 7 = σ2 98 7 ∧ s190 98 8 = H184 ∧ s190 98 9 = σ2 98 9 ∧ s190 101 18 = σ2 101 18 ∧ s190 101 25 = ((σ2 101 25) + 1) ∧ s190 101 43 = σ2 101 43 ∧ s190 = h_up s186 101 25 ((σ2 101 25) + 1)) => ?_))
        clear hz187
        refine d_toL (g_inj ns) hlw150 hRw150 (fun lvw191 memw191 hlw191 hRw191 => ?_)
        show h_T g_P (g_Y ns) 60 64 [(3, .int z145), (0, .ref 63), (1, .ref 72), (2, .int x2)] [] s140 _
        exact h_wk [(0, .ref 63)] ⟨rfl, trivial⟩ (kx0 _ _ Is140 Is190 Fs140 Fs190 (by omega) (by omega) (by omega) (by omega) (by omega) (fun h => absurd h (by omega)) (Or.inl ⟨by omega, by omega, by omega, by omega⟩) _ _ (h_al_ok ⟨rfl, trivial⟩ hlw191) hRw191)
  · show h_T g_P (g_Y ns) 60 14 [(0, .ref 63), (1, .ref 72), (2, .int x2)] [] σ1 _
    refine h_aload_n (pc' := 15) rfl rfl rfl ?_
    refine h_call (sp := false) (pc' := 18) (M := [(0, .ref 63)]) rfl rfl rfl rfl rfl rfl rfl rfl ?_
    refine h_aload_n (pc' := 1) rfl rfl rfl ?_
    refine h_getI (pc' := 4) (v := σ1 63 2) rfl rfl rfl rfl rfl rfl (fun z192 hz192 => ?_)
    have tz192 := tf_63_2 hI1
    refine h_zne (tg := 22) (pc' := 7) rfl rfl rfl hz192 (fun c193 => absurd c193 (by omega)) (fun c193 => ?_)
    clear hz192
    refine h_aload_n (pc' := 8) rfl rfl rfl ?_
    refine h_getR (pc' := 11) rfl rfl rfl rfl rfl ?_
    refine h_getI (pc' := 14) (v := σ1 64 3) rfl rfl rfl rfl rfl rfl (fun z194 hz194 => ?_)
    have tz194 := tf_64_3 hI1
    refine h_iconst (pc' := 15) (x := (Int32.ofInt 2)) rfl rfl rfl ?_
    refine h_cne (tg := 22) (pc' := 18) rfl rfl rfl hz194 ci_2 (fun c195 => ?_) (fun c195 => absurd c195 (by omega))
    clear hz194
    refine h_iconst (pc' := 23) (x := (Int32.ofInt 0)) rfl rfl rfl ?_
    refine h_zret rfl rfl ci_0 (by omega) (h_Kv ?_)
    refine h_zeq (tg := 44) (pc' := 21) rfl rfl rfl ci_0 (fun c196 => ?_) (fun c196 => absurd c196 (by omega))
    refine h_aload_n (pc' := 45) rfl rfl rfl ?_
    refine h_iconst (pc' := 46) (x := (Int32.ofInt 5)) rfl rfl rfl ?_
    refine d_toM (g_inj ns) hl2 hR2 (fun lvw197 memw197 hlw197 hRw197 => ?_)
    show h_T g_P (g_Y ns) 151 5 [(0, .ref 98), (1, .int (Int32.ofInt 19)), (2, .int y2), (3, .int y3)] [] σ2 _
    refine h_aload_n (pc' := 6) rfl rfl rfl ?_
    refine h_getI (pc' := 9) (v := σ2 98 13) rfl rfl rfl rfl rfl rfl (fun z198 hz198 => ?_)
    have tz198 := tf_98_13 hI2
    refine h_zne (tg := 33) (pc' := 12) rfl rfl rfl hz198 (fun c199 => absurd c199 (by omega)) (fun c199 => ?_)
    clear hz198
    refine h_aload_n (pc' := 13) rfl rfl rfl ?_
    refine h_getI (pc' := 16) (v := σ2 98 17) rfl rfl rfl rfl rfl rfl (fun z200 hz200 => ?_)
    have tz200 := tf_98_17 hI2
    refine h_iconst (pc' := 17) (x := (Int32.ofInt 2)) rfl rfl rfl ?_
    refine h_cne (tg := 33) (pc' := 20) rfl rfl rfl hz200 ci_2 (fun c201 => ?_) (fun c201 => absurd c201 (by omega))
    clear hz200
    refine h_aload_n (pc' := 34) rfl rfl rfl ?_
    refine h_getR (pc' := 37) rfl rfl rfl rfl rfl ?_
    refine h_iload_n (pc' := 38) rfl rfl rfl ?_
    refine h_iconst (pc' := 39) (x := (Int32.ofInt 2)) rfl rfl rfl ?_
    refine h_iload_n (pc' := 40) rfl rfl rfl ?_
    refine h_imul (pc' := 41) rfl rfl ci_2 hy2 rfl (by omega) (by omega) (fun z202 hz202 => ?_)
    refine h_iadd (pc' := 42) rfl rfl ci_19 hz202 rfl (by omega) (by omega) (fun z203 hz203 => ?_)
    clear hz202
    refine h_iload_n (pc' := 43) rfl rfl rfl ?_
    refine h_iast (pc' := 44) rfl rfl rfl rfl hz203 (by omega) (by omega) hy3 (h_fgt (E := fun s => s 98 15 = σ2 98 15 ∧ s 98 16 = σ2 98 16 ∧ s 98 17 = σ2 98 17 ∧ s 98 18 = σ2 98 18 ∧ s 98 13 = σ2 98 13 ∧ s 98 14 = σ2 98 14 ∧ s 98 5 = σ2 98 5 ∧ s 98 6 = σ2 98 6 ∧ s 98 7 = σ2 98 7 ∧ s 98 8 = σ2 98 8 ∧ s 98 9 = σ2 98 9 ∧ s 101 18 = σ2 101 18 ∧ s 101 25 = σ2 101 25 ∧ s 101 43 = σ2 101 43 ∧ s = h_up σ2 101 (19 + (2 * c2)) c3) _ (ip_101_4 hI2 (by omega) (by omega)) (F2.up rfl) ⟨rfl, rfl, rfl, rfl, rfl, rfl, rfl, rfl, rfl, rfl, rfl, h_up_n2 (by omega) rfl, h_up_n2 (by omega) rfl, h_up_n2 (by omega) rfl, rfl⟩ (fun s204 Is204 Fs204 (es204 : s204 98 15 = σ2 98 15 ∧ s204 98 16 = σ2 98 16 ∧ s204 98 17 = σ2 98 17 ∧ s204 98 18 = σ2 98 18 ∧ s204 98 13 = σ2 98 13 ∧ s204 98 14 = σ2 98 14 ∧ s204 98 5 = σ2 98 5 ∧ s204 98 6 = σ2 98 6 ∧ s204 98 7 = σ2 98 7 ∧ s204 98 8 = σ2 98 8 ∧ s204 98 9 = σ2 98 9 ∧ s204 101 18 = σ2 101 18 ∧ s204 101 25 = σ2 101 25 ∧ s204 101 43 = σ2 101 43 ∧ s204 = h_up σ2 101 (19 + (2 * c2)) c3) => ?_))
    clear hz203
    refine h_aload_n (pc' := 45) rfl rfl rfl ?_
    refine h_getR (pc' := 48) rfl rfl rfl rfl rfl ?_
    refine h_iload_n (pc' := 49) rfl rfl rfl ?_
    refine h_iconst (pc' := 50) (x := (Int32.ofInt 2)) rfl rfl rfl ?_
    refine h_iload_n (pc' := 51) rfl rfl rfl ?_
    refine h_imul (pc' := 52) rfl rfl ci_2 hy2 rfl (by omega) (by omega) (fun z205 hz205 => ?_)
    refine h_iadd (pc' := 53) rfl rfl ci_19 hz205 rfl (by omega) (by omega) (fun z206 hz206 => ?_)
    clear hz205
    refine h_iconst (pc' := 54) (x := (Int32.ofInt 1)) rfl rfl rfl ?_
    refine h_iadd (pc' := 55) rfl rfl hz206 ci_1 rfl (by omega) (by omega) (fun z207 hz207 => ?_)
    clear hz206
    refine h_aload_n (pc' := 56) rfl rfl rfl ?_
    refine d_call (g_inj ns) (pc' := 59) (m := 150) (M := [(0, .ref 98)]) (rest := [.int z207, .ref 101]) ⟨false, _, _, _, _, _, _, rfl, rfl, rfl, rfl, rfl, rfl, rfl⟩ (fun lv208 hlv208 => ?_)
    refine h_aload_n (pc' := 1) rfl rfl rfl ?_
    refine h_iconst (pc' := 2) (x := (Int32.ofInt 0)) rfl rfl rfl ?_
    refine h_iconst (pc' := 3) (x := (Int32.ofInt 5)) rfl rfl rfl ?_
    refine d_pcall (g_inj ns) (m1 := 58) (pc1' := 49) (M1 := [(0, .ref 63), (1, .int (Int32.ofInt 5))]) (rest1 := []) (m2 := 149) (pc2' := 6) (M2 := [(0, .ref 98), (1, .int (Int32.ofInt 0)), (2, .int (Int32.ofInt 5))]) (rest2 := []) ⟨false, _, _, _, _, _, _, rfl, rfl, rfl, rfl, rfl, rfl, rfl⟩ ⟨false, _, _, _, _, _, _, rfl, rfl, rfl, rfl, rfl, rfl, rfl⟩ hRw197 ?_
    refine pp_num hI1 Is204 (hTL.fr (F1.mono rfl) (Fs204.mono rfl)) (Int32.ofInt 5) _ ci_5 (Int32.ofInt 5) _ ci_5 (by omega) (by omega) (by omega) (by omega) (by omega) (by omega) (Or.inr (Or.inr (Or.inr (Or.inr ⟨by omega, by omega, by omega, by omega, by omega⟩)))) (fun rq209x bq209x hq209x rq209m bq209m hq209m sq209 tq209 Isq209 Itq209 Gsq209 Gtq209 yq209_0 yq209_1 yq209_2 yq209_3 yq209_4 pcq209 memq209 hRq209 => ?_)
    have Fsq209 := (Gsq209.mono (B := k_pl) rfl).tr F1
    have Ftq209 := (Gtq209.mono (B := k_pm) rfl).tr Fs204
    have esq209_6 : sq209 64 1 = σ1 64 1 := (Gsq209 64 1 rfl).trans rfl
    have esq209_7 : sq209 66 8 = σ1 66 8 := (Gsq209 66 8 rfl).trans rfl
    have esq209_8 : sq209 66 9 = σ1 66 9 := (Gsq209 66 9 rfl).trans rfl
    have esq209_9 : sq209 66 10 = σ1 66 10 := (Gsq209 66 10 rfl).trans rfl
    have esq209_10 : sq209 69 2 = σ1 69 2 := (Gsq209 69 2 rfl).trans rfl
    have esq209_11 : sq209 72 2 = σ1 72 2 := (Gsq209 72 2 rfl).trans rfl
    have esq209_12 : sq209 63 5 = σ1 63 5 := (Gsq209 63 5 rfl).trans rfl
    have etq209_6 : tq209 98 5 = σ2 98 5 := (Gtq209 98 5 rfl).trans es204.2.2.2.2.2.2.1
    have etq209_7 : tq209 98 6 = σ2 98 6 := (Gtq209 98 6 rfl).trans es204.2.2.2.2.2.2.2.1
    have etq209_8 : tq209 98 7 = σ2 98 7 := (Gtq209 98 7 rfl).trans es204.2.2.2.2.2.2.2.2.1
    have etq209_9 : tq209 98 8 = σ2 98 8 := (Gtq209 98 8 rfl).trans es204.2.2.2.2.2.2.2.2.2.1
    have etq209_10 : tq209 98 9 = σ2 98 9 := (Gtq209 98 9 rfl).trans es204.2.2.2.2.2.2.2.2.2.2.1
    have etq209_11 : tq209 101 18 = σ2 101 18 := (Gtq209 101 18 rfl).trans es204.2.2.2.2.2.2.2.2.2.2.2.1
    have etq209_12 : tq209 101 25 = σ2 101 25 := (Gtq209 101 25 rfl).trans es204.2.2.2.2.2.2.2.2.2.2.2.2.1
    have etq209_13 : tq209 101 43 = σ2 101 43 := (Gtq209 101 43 rfl).trans es204.2.2.2.2.2.2.2.2.2.2.2.2.2.1
    rcases pcq209 with pcq209 | pcq209
    · show h_T g_P (g_Y ns) 150 6 [(0, .ref 98)] [.int rq209m] tq209 _
      refine h_istore_n (pc' := 7) (M := [(1, .int rq209m), (0, .ref 98)]) rfl rfl rfl rfl ?_
      have oH210 : tq209 98 8 = σ2 98 8 := etq209_9
      have uH210 := tf_98_8 Itq209
      refine lm_hi _ Itq209 rq209m _ hq209m (by omega) (fun H210 hH210 => (h_fgt (E := fun s => s 98 15 = tq209 98 15 ∧ s 98 16 = tq209 98 16 ∧ s 98 17 = tq209 98 17 ∧ s 98 18 = tq209 98 18 ∧ s 98 13 = tq209 98 13 ∧ s 98 14 = tq209 98 14 ∧ s 98 5 = σ2 98 5 ∧ s 98 6 = σ2 98 6 ∧ s 98 7 = σ2 98 7 ∧ s 98 8 = H210 ∧ s 98 9 = σ2 98 9 ∧ s 101 18 = σ2 101 18 ∧ s 101 25 = σ2 101 25 ∧ s 101 43 = σ2 101 43 ∧ s = h_up tq209 98 8 H210) _ (if_98_8 Itq209 (by omega)) (Ftq209.up rfl) ⟨rfl, rfl, rfl, rfl, rfl, rfl, etq209_6, etq209_7, etq209_8, rfl, etq209_10, etq209_11, etq209_12, etq209_13, rfl⟩ (fun s211 Is211 Fs211 (es211 : s211 98 15 = tq209 98 15 ∧ s211 98 16 = tq209 98 16 ∧ s211 98 17 = tq209 98 17 ∧ s211 98 18 = tq209 98 18 ∧ s211 98 13 = tq209 98 13 ∧ s211 98 14 = tq209 98 14 ∧ s211 98 5 = σ2 98 5 ∧ s211 98 6 = σ2 98 6 ∧ s211 98 7 = σ2 98 7 ∧ s211 98 8 = H210 ∧ s211 98 9 = σ2 98 9 ∧ s211 101 18 = σ2 101 18 ∧ s211 101 25 = σ2 101 25 ∧ s211 101 43 = σ2 101 43 ∧ s211 = h_up tq209 98 8 H210) => ?_)))
      refine h_iload_n (pc' := 28) rfl rfl rfl ?_
      refine h_iret rfl rfl (d_ret hlv208 ?_)
      refine h_iast (pc' := 60) rfl rfl rfl rfl hz207 (by omega) (by omega) hq209m (h_fgt (E := fun s => s 98 15 = tq209 98 15 ∧ s 98 16 = tq209 98 16 ∧ s 98 17 = tq209 98 17 ∧ s 98 18 = tq209 98 18 ∧ s 98 13 = tq209 98 13 ∧ s 98 14 = tq209 98 14 ∧ s 98 5 = σ2 98 5 ∧ s 98 6 = σ2 98 6 ∧ s 98 7 = σ2 98 7 ∧ s 98 8 = H210 ∧ s 98 9 = σ2 98 9 ∧ s 101 18 = σ2 101 18 ∧ s 101 25 = σ2 101 25 ∧ s 101 43 = σ2 101 43 ∧ s = h_up s211 101 ((19 + (2 * c2)) + 1) bq209m) _ (ip_101_4 Is211 (by omega) (by omega)) (Fs211.up rfl) ⟨es211.1, es211.2.1, es211.2.2.1, es211.2.2.2.1, es211.2.2.2.2.1, es211.2.2.2.2.2.1, es211.2.2.2.2.2.2.1, es211.2.2.2.2.2.2.2.1, es211.2.2.2.2.2.2.2.2.1, es211.2.2.2.2.2.2.2.2.2.1, es211.2.2.2.2.2.2.2.2.2.2.1, h_up_n2 (by omega) es211.2.2.2.2.2.2.2.2.2.2.2.1, h_up_n2 (by omega) es211.2.2.2.2.2.2.2.2.2.2.2.2.1, h_up_n2 (by omega) es211.2.2.2.2.2.2.2.2.2.2.2.2.2.1, rfl⟩ (fun s212 Is212 Fs212 (es212 : s212 98 15 = tq209 98 15 ∧ s212 98 16 = tq209 98 16 ∧ s212 98 17 = tq209 98 17 ∧ s212 98 18 = tq209 98 18 ∧ s212 98 13 = tq209 98 13 ∧ s212 98 14 = tq209 98 14 ∧ s212 98 5 = σ2 98 5 ∧ s212 98 6 = σ2 98 6 ∧ s212 98 7 = σ2 98 7 ∧ s212 98 8 = H210 ∧ s212 98 9 = σ2 98 9 ∧ s212 101 18 = σ2 101 18 ∧ s212 101 25 = σ2 101 25 ∧ s212 101 43 = σ2 101 43 ∧ s212 = h_up s211 101 ((19 + (2 * c2)) + 1) bq209m) => ?_))
      clear hq209m hz207
      refine h_aload_n (pc' := 61) rfl rfl rfl ?_
      refine h_getR (pc' := 64) rfl rfl rfl rfl rfl ?_
      refine h_iload_n (pc' := 65) rfl rfl rfl ?_
      refine h_bipush (pc' := 67) (x := (Int32.ofInt 6)) rfl rfl cb_6 ?_
      refine h_iadd (pc' := 68) (c := 25) rfl rfl ci_19 ci_6 rfl (by omega) (by omega) (fun z213 hz213 => ?_)
      refine h_dup2 (pc' := 69) rfl rfl rfl ?_
      refine h_iald (pc' := 70) (v := σ2 101 25) rfl rfl rfl hz213 (by omega) (by omega) es212.2.2.2.2.2.2.2.2.2.2.2.2.1 (fun z214 hz214 => ?_)
      have tz214 := ty_101_5 hI2 25 (by omega)
      refine h_iconst (pc' := 71) (x := (Int32.ofInt 1)) rfl rfl rfl ?_
      refine h_iadd (pc' := 72) rfl rfl hz214 ci_1 rfl (by omega) (by omega) (fun z215 hz215 => ?_)
      clear hz214
      refine h_iast (pc' := 73) rfl rfl rfl rfl hz213 (by omega) (by omega) hz215 (h_fgt (E := fun s => s 98 15 = tq209 98 15 ∧ s 98 16 = tq209 98 16 ∧ s 98 17 = tq209 98 17 ∧ s 98 18 = tq209 98 18 ∧ s 98 13 = tq209 98 13 ∧ s 98 14 = tq209 98 14 ∧ s 98 5 = σ2 98 5 ∧ s 98 6 = σ2 98 6 ∧ s 98 7 = σ2 98 7 ∧ s 98 8 = H210 ∧ s 98 9 = σ2 98 9 ∧ s 101 18 = σ2 101 18 ∧ s 101 25 = ((σ2 101 25) + 1) ∧ s 101 43 = σ2 101 43 ∧ s = h_up s212 101 25 ((σ2 101 25) + 1)) _ (ip_101_5 Is212 (by omega) (by omega)) (Fs212.up rfl) ⟨es212.1, es212.2.1, es212.2.2.1, es212.2.2.2.1, es212.2.2.2.2.1, es212.2.2.2.2.2.1, es212.2.2.2.2.2.2.1, es212.2.2.2.2.2.2.2.1, es212.2.2.2.2.2.2.2.2.1, es212.2.2.2.2.2.2.2.2.2.1, es212.2.2.2.2.2.2.2.2.2.2.1, es212.2.2.2.2.2.2.2.2.2.2.2.1, rfl, es212.2.2.2.2.2.2.2.2.2.2.2.2.2.1, rfl⟩ (fun s216 Is216 Fs216 (es216 : s216 98 15 = tq209 98 15 ∧ s216 98 16 = tq209 98 16 ∧ s216 98 17 = tq209 98 17 ∧ s216 98 18 = tq209 98 18 ∧ s216 98 13 = tq209 98 13 ∧ s216 98 14 = tq209 98 14 ∧ s216 98 5 = σ2 98 5 ∧ s216 98 6 = σ2 98 6 ∧ s216 98 7 = σ2 98 7 ∧ s216 98 8 = H210 ∧ s216 98 9 = σ2 98 9 ∧ s216 101 18 = σ2 101 18 ∧ s216 101 25 = ((σ2 101 25) + 1) ∧ s216 101 43 = σ2 101 43 ∧ s216 = h_up s212 101 25 ((σ2 101 25) + 1)) => ?_))
      clear hz213
      refine d_toL (g_inj ns) hlw197 hRq209 (fun lvw217 memw217 hlw217 hRw217 => ?_)
      show h_T g_P (g_Y ns) 60 49 [(0, .ref 63), (1, .ref 72), (2, .int x2)] [.int rq209x] sq209 _
      refine h_istore_n (pc' := 50) (M := [(3, .int rq209x), (0, .ref 63), (1, .ref 72), (2, .int x2)]) rfl rfl rfl rfl ?_
      refine h_aload_n (pc' := 51) rfl rfl rfl ?_
      refine h_getI (pc' := 54) (v := sq209 63 2) rfl rfl rfl rfl rfl rfl (fun z218 hz218 => ?_)
      have tz218 := tf_63_2 Isq209
      refine h_zne (tg := 64) (pc' := 57) rfl rfl rfl hz218 (fun c219 => ?_) (fun c219 => absurd c219 (by omega))
      clear hz218
      exact h_wk [(0, .ref 63)] ⟨rfl, trivial⟩ (kx0 _ _ Isq209 Is216 Fsq209 Fs216 (by omega) (by omega) (by omega) (by omega) (by omega) (fun h => absurd h (by omega)) (Or.inl ⟨by omega, by omega, by omega, by omega⟩) _ _ (h_al_ok ⟨rfl, trivial⟩ hlw217) hRw217)
    · exfalso; omega
set_option maxHeartbeats 100000000 in
theorem ls_feu_b {ns : Nat} {σ1 σ2 : h_S} (hI1 : h_I σ1) (hI2 : h_I σ2) (hTL : d_tape σ1 σ2) (y2 : Int32) (c2 : Int) (hy2 : y2.toInt = c2) (pr0 : σ1 64 2 = σ2 98 15) (pr1 : σ1 64 4 = σ2 98 16) (pr2 : σ1 63 2 = σ2 98 13) (pr3 : σ1 66 8 = σ2 98 5) (pr4 : σ1 66 9 = σ2 98 6) (pr5 : σ1 66 10 = σ2 101 43) (pr6 : σ1 69 2 = σ2 101 18) (pr7 : σ1 72 2 = σ2 101 25) (pr8 : σ1 63 5 = σ2 98 7) (pr9 : σ1 64 2 ≤ σ1 64 1) (pr10 : d_RD σ1 σ2) (pr11 : c2 = σ2 101 25) (pc0 : ((σ1 63 2 = 0) ∧ (σ1 64 3 = 0) ∧ (0 ≤ σ1 72 2 ∧ σ1 72 2 ≤ 2) ∧ (σ2 98 13 = 0) ∧ (σ2 98 17 = 0) ∧ (0 ≤ σ2 101 25 ∧ σ2 101 25 ≤ 2) ∧ (σ1 64 4 = σ1 64 1)) ∨ ((σ1 63 2 = 0) ∧ (σ1 64 3 = 1) ∧ (0 ≤ σ1 72 2 ∧ σ1 72 2 ≤ 2) ∧ (σ2 98 13 = 0) ∧ (σ2 98 17 = 1) ∧ (0 ≤ σ2 101 25 ∧ σ2 101 25 ≤ 2) ∧ (σ1 64 4 < σ1 64 2)) ∨ ((σ1 63 2 = 0) ∧ (σ1 64 3 = 2) ∧ (0 ≤ σ1 72 2 ∧ σ1 72 2 ≤ 2) ∧ (σ2 98 13 = 0) ∧ (σ2 98 17 = 2) ∧ (0 ≤ σ2 101 25 ∧ σ2 101 25 ≤ 2) ∧ (0 ≤ σ1 64 5 ∧ σ1 64 5 ≤ 99) ∧ (0 ≤ σ2 98 18 ∧ σ2 98 18 ≤ 99) ∧ (σ1 64 5 = σ2 98 18) ∧ (σ1 64 4 < σ1 64 2)) ∨ ((σ1 63 2 = 0) ∧ (σ1 64 3 = 3) ∧ (0 ≤ σ1 72 2 ∧ σ1 72 2 ≤ 2) ∧ (σ2 98 13 = 0) ∧ (σ2 98 17 = 3) ∧ (0 ≤ σ2 101 25 ∧ σ2 101 25 ≤ 2) ∧ (σ1 64 4 < σ1 64 2))) {cs1 cs2 : List d_Fr} {Q : d_Q} (kx0 : ∀ (s t : h_S), h_I s → h_I t → h_F (k_in k_pl) s σ1 → h_F (k_in k_pm) t σ2 → (s 64 2 = t 98 15) → (s 64 4 = t 98 16) → (s 63 2 = t 98 13) → (s 64 2 ≤ s 64 1) → (σ1 64 2 ≤ s 64 2) → (d_ok s t) → (((1 ≤ s 63 2 ∧ s 63 2 ≤ 6) ∧ (1 ≤ t 98 13 ∧ t 98 13 ≤ 6) ∧ (s 63 2 = t 98 13) ∧ (s 63 3 = t 98 14)) ∨ ((s 63 2 = 0) ∧ (s 64 3 = 0) ∧ (t 98 13 = 0) ∧ (t 98 17 = 0) ∧ (s 64 4 = s 64 1) ∧ ((s 64 2 = σ1 64 2 ∧ s 64 3 = σ1 64 3) ∨ σ1 64 2 < s 64 2)) ∨ ((s 63 2 = 0) ∧ (s 64 3 = 1) ∧ (t 98 13 = 0) ∧ (t 98 17 = 1) ∧ (s 64 4 < s 64 2) ∧ ((s 64 2 = σ1 64 2 ∧ s 64 3 = σ1 64 3) ∨ σ1 64 2 < s 64 2)) ∨ ((s 63 2 = 0) ∧ (s 64 3 = 2) ∧ (t 98 13 = 0) ∧ (t 98 17 = 2) ∧ (0 ≤ s 64 5 ∧ s 64 5 ≤ 99) ∧ (0 ≤ t 98 18 ∧ t 98 18 ≤ 99) ∧ (s 64 5 = t 98 18) ∧ (s 64 4 < s 64 2) ∧ ((s 64 2 = σ1 64 2 ∧ s 64 3 = σ1 64 3) ∨ σ1 64 2 < s 64 2)) ∨ ((s 63 2 = 0) ∧ (s 64 3 = 3) ∧ (t 98 13 = 0) ∧ (t 98 17 = 3) ∧ (s 64 4 < s 64 2) ∧ ((s 64 2 = σ1 64 2 ∧ s 64 3 = σ1 64 3) ∨ σ1 64 2 < s 64 2))) → ∀ lv2 mem2, h_loc [(0, .ref 98)] lv2 → h_R (g_Y ns) t mem2 → h_T g_P (g_Y ns) 60 64 [(0, .ref 63)] [] s (d_cs g_P (g_Y ns) cs1 (d_L g_P (g_Y ns) (151, 73, lv2, []) cs2 mem2 Q))) : ∀ lv2 mem2, h_loc [(0, .ref 98), (1, .int (Int32.ofInt 19)), (2, .int y2)] lv2 → h_R (g_Y ns) σ2 mem2 → h_T g_P (g_Y ns) 60 8 [(0, .ref 63), (1, .ref 72)] [] σ1 (d_cs g_P (g_Y ns) cs1 (d_L g_P (g_Y ns) (151, 0, lv2, []) cs2 mem2 Q)) := by
  intro lv2 mem2 hl2 hR2
  have hT := hTL.1
  have hL := hTL.2
  have F1 : h_F (k_in k_pl) σ1 σ1 := h_F.rf
  have F2 : h_F (k_in k_pm) σ2 σ2 := h_F.rf
  have ge0 := tf_64_1 hI1
  have ge1 := tf_66_8 hI1
  have ge2 := tf_66_9 hI1
  have ge3 := tf_66_10 hI1
  have ge4 := tf_69_2 hI1
  have ge5 := tf_72_2 hI1
  have ge6 := tf_63_5 hI1
  have ge7 := tf_63_2 hI1
  have ge8 := tf_98_8 hI2
  have ge9 := tf_98_9 hI2
  have ge10 := tf_98_13 hI2
  show h_T g_P (g_Y ns) 60 8 [(0, .ref 63), (1, .ref 72)] [] σ1 _
  refine h_aload_n (pc' := 9) rfl rfl rfl ?_
  refine h_iconst (pc' := 10) (x := (Int32.ofInt 5)) rfl rfl rfl ?_
  refine d_toM (g_inj ns) hl2 hR2 (fun lvw1 memw1 hlw1 hRw1 => ?_)
  show h_T g_P (g_Y ns) 151 0 [(0, .ref 98), (1, .int (Int32.ofInt 19)), (2, .int y2)] [] σ2 _
  refine h_aload_n (pc' := 1) rfl rfl rfl ?_
  refine d_call (g_inj ns) (pc' := 4) (m := 150) (M := [(0, .ref 98)]) (rest := []) ⟨false, _, _, _, _, _, _, rfl, rfl, rfl, rfl, rfl, rfl, rfl⟩ (fun lv2 hlv2 => ?_)
  refine h_aload_n (pc' := 1) rfl rfl rfl ?_
  refine h_iconst (pc' := 2) (x := (Int32.ofInt 0)) rfl rfl rfl ?_
  refine h_iconst (pc' := 3) (x := (Int32.ofInt 5)) rfl rfl rfl ?_
  refine d_pcall (g_inj ns) (m1 := 58) (pc1' := 13) (M1 := [(0, .ref 63), (1, .int (Int32.ofInt 5))]) (rest1 := []) (m2 := 149) (pc2' := 6) (M2 := [(0, .ref 98), (1, .int (Int32.ofInt 0)), (2, .int (Int32.ofInt 5))]) (rest2 := []) ⟨false, _, _, _, _, _, _, rfl, rfl, rfl, rfl, rfl, rfl, rfl⟩ ⟨false, _, _, _, _, _, _, rfl, rfl, rfl, rfl, rfl, rfl, rfl⟩ hRw1 ?_
  refine pp_num hI1 hI2 (hTL.fr (F1.mono rfl) (F2.mono rfl)) (Int32.ofInt 5) _ ci_5 (Int32.ofInt 5) _ ci_5 (by omega) (by omega) (by omega) (by omega) (by omega) (by omega) (pc0.elim (fun pc0 => (Or.inr (Or.inl ⟨by omega, by omega, by omega, by omega, by omega⟩))) (fun pc0 => (pc0.elim (fun pc0 => (Or.inr (Or.inr (Or.inl ⟨by omega, by omega, by omega, by omega, by omega⟩)))) (fun pc0 => (pc0.elim (fun pc0 => (Or.inr (Or.inr (Or.inr (Or.inl ⟨by omega, by omega, by omega, by omega, by omega, by omega, by omega, by omega⟩))))) (fun pc0 => (Or.inr (Or.inr (Or.inr (Or.inr ⟨by omega, by omega, by omega, by omega, by omega⟩)))))))))) (fun rq3x bq3x hq3x rq3m bq3m hq3m sq3 tq3 Isq3 Itq3 Gsq3 Gtq3 yq3_0 yq3_1 yq3_2 yq3_3 yq3_4 pcq3 memq3 hRq3 => ?_)
  have Fsq3 := (Gsq3.mono (B := k_pl) rfl).tr F1
  have Ftq3 := (Gtq3.mono (B := k_pm) rfl).tr F2
  have esq3_6 : sq3 64 1 = σ1 64 1 := (Gsq3 64 1 rfl).trans rfl
  have esq3_7 : sq3 66 8 = σ1 66 8 := (Gsq3 66 8 rfl).trans rfl
  have esq3_8 : sq3 66 9 = σ1 66 9 := (Gsq3 66 9 rfl).trans rfl
  have esq3_9 : sq3 66 10 = σ1 66 10 := (Gsq3 66 10 rfl).trans rfl
  have esq3_10 : sq3 69 2 = σ1 69 2 := (Gsq3 69 2 rfl).trans rfl
  have esq3_11 : sq3 72 2 = σ1 72 2 := (Gsq3 72 2 rfl).trans rfl
  have esq3_12 : sq3 63 5 = σ1 63 5 := (Gsq3 63 5 rfl).trans rfl
  have etq3_6 : tq3 98 5 = σ2 98 5 := (Gtq3 98 5 rfl).trans rfl
  have etq3_7 : tq3 98 6 = σ2 98 6 := (Gtq3 98 6 rfl).trans rfl
  have etq3_8 : tq3 98 7 = σ2 98 7 := (Gtq3 98 7 rfl).trans rfl
  have etq3_9 : tq3 98 8 = σ2 98 8 := (Gtq3 98 8 rfl).trans rfl
  have etq3_10 : tq3 98 9 = σ2 98 9 := (Gtq3 98 9 rfl).trans rfl
  have etq3_11 : tq3 101 18 = σ2 101 18 := (Gtq3 101 18 rfl).trans rfl
  have etq3_12 : tq3 101 25 = σ2 101 25 := (Gtq3 101 25 rfl).trans rfl
  have etq3_13 : tq3 101 43 = σ2 101 43 := (Gtq3 101 43 rfl).trans rfl
  rcases pcq3 with pcq3 | pcq3
  · show h_T g_P (g_Y ns) 150 6 [(0, .ref 98)] [.int rq3m] tq3 _
    refine h_istore_n (pc' := 7) (M := [(1, .int rq3m), (0, .ref 98)]) rfl rfl rfl rfl ?_
    have oH4 : tq3 98 8 = σ2 98 8 := etq3_9
    have uH4 := tf_98_8 Itq3
    refine lm_hi _ Itq3 rq3m _ hq3m (by omega) (fun H4 hH4 => (h_fgt (E := fun s => s 98 15 = tq3 98 15 ∧ s 98 16 = tq3 98 16 ∧ s 98 17 = tq3 98 17 ∧ s 98 18 = tq3 98 18 ∧ s 98 13 = tq3 98 13 ∧ s 98 14 = tq3 98 14 ∧ s 98 5 = σ2 98 5 ∧ s 98 6 = σ2 98 6 ∧ s 98 7 = σ2 98 7 ∧ s 98 8 = H4 ∧ s 98 9 = σ2 98 9 ∧ s 101 18 = σ2 101 18 ∧ s 101 25 = σ2 101 25 ∧ s 101 43 = σ2 101 43 ∧ s = h_up tq3 98 8 H4) _ (if_98_8 Itq3 (by omega)) (Ftq3.up rfl) ⟨rfl, rfl, rfl, rfl, rfl, rfl, etq3_6, etq3_7, etq3_8, rfl, etq3_10, etq3_11, etq3_12, etq3_13, rfl⟩ (fun s5 Is5 Fs5 (es5 : s5 98 15 = tq3 98 15 ∧ s5 98 16 = tq3 98 16 ∧ s5 98 17 = tq3 98 17 ∧ s5 98 18 = tq3 98 18 ∧ s5 98 13 = tq3 98 13 ∧ s5 98 14 = tq3 98 14 ∧ s5 98 5 = σ2 98 5 ∧ s5 98 6 = σ2 98 6 ∧ s5 98 7 = σ2 98 7 ∧ s5 98 8 = H4 ∧ s5 98 9 = σ2 98 9 ∧ s5 101 18 = σ2 101 18 ∧ s5 101 25 = σ2 101 25 ∧ s5 101 43 = σ2 101 43 ∧ s5 = h_up tq3 98 8 H4) => ?_)))
    refine h_iload_n (pc' := 28) rfl rfl rfl ?_
    refine h_iret rfl rfl (d_ret hlv2 ?_)
    refine h_istore_n (pc' := 5) (M := [(3, .int rq3m), (0, .ref 98), (1, .int (Int32.ofInt 19)), (2, .int y2)]) rfl rfl rfl rfl ?_
    refine h_aload_n (pc' := 6) rfl rfl rfl ?_
    refine h_getI (pc' := 9) (v := tq3 98 13) rfl rfl rfl rfl rfl es5.2.2.2.2.1 (fun z6 hz6 => ?_)
    have tz6 := tf_98_13 Itq3
    refine h_zne (tg := 33) (pc' := 12) rfl rfl rfl hz6 (fun c7 => ?_) (fun c7 => absurd c7 (by omega))
    clear hz6
    refine h_aload_n (pc' := 34) rfl rfl rfl ?_
    refine h_getR (pc' := 37) rfl rfl rfl rfl rfl ?_
    refine h_iload_n (pc' := 38) rfl rfl rfl ?_
    refine h_iconst (pc' := 39) (x := (Int32.ofInt 2)) rfl rfl rfl ?_
    refine h_iload_n (pc' := 40) rfl rfl rfl ?_
    refine h_imul (pc' := 41) rfl rfl ci_2 hy2 rfl (by omega) (by omega) (fun z8 hz8 => ?_)
    refine h_iadd (pc' := 42) rfl rfl ci_19 hz8 rfl (by omega) (by omega) (fun z9 hz9 => ?_)
    clear hz8
    refine h_iload_n (pc' := 43) rfl rfl rfl ?_
    refine h_iast (pc' := 44) rfl rfl rfl rfl hz9 (by omega) (by omega) hq3m (h_fgt (E := fun s => s 98 15 = tq3 98 15 ∧ s 98 16 = tq3 98 16 ∧ s 98 17 = tq3 98 17 ∧ s 98 18 = tq3 98 18 ∧ s 98 13 = tq3 98 13 ∧ s 98 14 = tq3 98 14 ∧ s 98 5 = σ2 98 5 ∧ s 98 6 = σ2 98 6 ∧ s 98 7 = σ2 98 7 ∧ s 98 8 = H4 ∧ s 98 9 = σ2 98 9 ∧ s 101 18 = σ2 101 18 ∧ s 101 25 = σ2 101 25 ∧ s 101 43 = σ2 101 43 ∧ s = h_up s5 101 (19 + (2 * c2)) bq3m) _ (ip_101_4 Is5 (by omega) (by omega)) (Fs5.up rfl) ⟨es5.1, es5.2.1, es5.2.2.1, es5.2.2.2.1, es5.2.2.2.2.1, es5.2.2.2.2.2.1, es5.2.2.2.2.2.2.1, es5.2.2.2.2.2.2.2.1, es5.2.2.2.2.2.2.2.2.1, es5.2.2.2.2.2.2.2.2.2.1, es5.2.2.2.2.2.2.2.2.2.2.1, h_up_n2 (by omega) es5.2.2.2.2.2.2.2.2.2.2.2.1, h_up_n2 (by omega) es5.2.2.2.2.2.2.2.2.2.2.2.2.1, h_up_n2 (by omega) es5.2.2.2.2.2.2.2.2.2.2.2.2.2.1, rfl⟩ (fun s10 Is10 Fs10 (es10 : s10 98 15 = tq3 98 15 ∧ s10 98 16 = tq3 98 16 ∧ s10 98 17 = tq3 98 17 ∧ s10 98 18 = tq3 98 18 ∧ s10 98 13 = tq3 98 13 ∧ s10 98 14 = tq3 98 14 ∧ s10 98 5 = σ2 98 5 ∧ s10 98 6 = σ2 98 6 ∧ s10 98 7 = σ2 98 7 ∧ s10 98 8 = H4 ∧ s10 98 9 = σ2 98 9 ∧ s10 101 18 = σ2 101 18 ∧ s10 101 25 = σ2 101 25 ∧ s10 101 43 = σ2 101 43 ∧ s10 = h_up s5 101 (19 + (2 * c2)) bq3m) => ?_))
    clear hz9
    refine h_aload_n (pc' := 45) rfl rfl rfl ?_
    refine h_getR (pc' := 48) rfl rfl rfl rfl rfl ?_
    refine h_iload_n (pc' := 49) rfl rfl rfl ?_
    refine h_iconst (pc' := 50) (x := (Int32.ofInt 2)) rfl rfl rfl ?_
    refine h_iload_n (pc' := 51) rfl rfl rfl ?_
    refine h_imul (pc' := 52) rfl rfl ci_2 hy2 rfl (by omega) (by omega) (fun z11 hz11 => ?_)
    refine h_iadd (pc' := 53) rfl rfl ci_19 hz11 rfl (by omega) (by omega) (fun z12 hz12 => ?_)
    clear hz11
    refine h_iconst (pc' := 54) (x := (Int32.ofInt 1)) rfl rfl rfl ?_
    refine h_iadd (pc' := 55) rfl rfl hz12 ci_1 rfl (by omega) (by omega) (fun z13 hz13 => ?_)
    clear hz12
    refine h_aload_n (pc' := 56) rfl rfl rfl ?_
    refine d_call (g_inj ns) (pc' := 59) (m := 150) (M := [(0, .ref 98)]) (rest := [.int z13, .ref 101]) ⟨false, _, _, _, _, _, _, rfl, rfl, rfl, rfl, rfl, rfl, rfl⟩ (fun lv14 hlv14 => ?_)
    refine h_aload_n (pc' := 1) rfl rfl rfl ?_
    refine h_iconst (pc' := 2) (x := (Int32.ofInt 0)) rfl rfl rfl ?_
    refine h_iconst (pc' := 3) (x := (Int32.ofInt 5)) rfl rfl rfl ?_
    refine h_call (sp := false) (pc' := 6) (M := [(0, .ref 98), (1, .int (Int32.ofInt 0)), (2, .int (Int32.ofInt 5))]) rfl rfl rfl rfl rfl rfl rfl rfl ?_
    refine h_aload_n (pc' := 1) rfl rfl rfl ?_
    refine h_getI (pc' := 4) (v := tq3 98 13) rfl rfl rfl rfl rfl es10.2.2.2.2.1 (fun z15 hz15 => ?_)
    refine h_zne (tg := 20) (pc' := 7) rfl rfl rfl hz15 (fun c16 => ?_) (fun c16 => absurd c16 (by omega))
    clear hz15
    refine h_aload_n (pc' := 21) rfl rfl rfl ?_
    refine h_getI (pc' := 24) (v := tq3 98 13) rfl rfl rfl rfl rfl es10.2.2.2.2.1 (fun z17 hz17 => ?_)
    refine h_zne (tg := 47) (pc' := 27) rfl rfl rfl hz17 (fun c18 => ?_) (fun c18 => absurd c18 (by omega))
    clear hz17
    refine h_aload_n (pc' := 48) rfl rfl rfl ?_
    refine h_getI (pc' := 51) (v := tq3 98 13) rfl rfl rfl rfl rfl es10.2.2.2.2.1 (fun z19 hz19 => ?_)
    refine h_zne (tg := 61) (pc' := 54) rfl rfl rfl hz19 (fun c20 => ?_) (fun c20 => absurd c20 (by omega))
    clear hz19
    refine h_iload_n (pc' := 62) rfl rfl rfl ?_
    refine h_istore_n (pc' := 63) (M := [(3, .int (Int32.ofInt 0)), (0, .ref 98), (1, .int (Int32.ofInt 0)), (2, .int (Int32.ofInt 5))]) rfl rfl rfl rfl ?_
    refine h_aload_n (pc' := 64) rfl rfl rfl ?_
    refine h_call (sp := false) (pc' := 67) (M := [(0, .ref 98)]) rfl rfl rfl rfl rfl rfl rfl rfl ?_
    refine h_aload_n (pc' := 1) rfl rfl rfl ?_
    refine h_getI (pc' := 4) (v := tq3 98 13) rfl rfl rfl rfl rfl es10.2.2.2.2.1 (fun z21 hz21 => ?_)
    refine h_zle (tg := 8) (pc' := 7) rfl rfl rfl hz21 (fun c22 => absurd c22 (by omega)) (fun c22 => ?_)
    clear hz21
    refine h_vret rfl rfl (h_Kn ?_)
    refine h_iload_n (pc' := 68) rfl rfl rfl ?_
    refine h_iret rfl rfl (h_Kv ?_)
    refine h_istore_n (pc' := 7) (M := [(1, .int (Int32.ofInt 0)), (0, .ref 98)]) rfl rfl rfl rfl ?_
    have oH23 : s10 98 8 = H4 := es10.2.2.2.2.2.2.2.2.2.1
    have uH23 := tf_98_8 Is10
    refine lm_hi _ Is10 (Int32.ofInt 0) _ ci_0 (by omega) (fun H23 hH23 => (h_fgt (E := fun s => s 98 15 = tq3 98 15 ∧ s 98 16 = tq3 98 16 ∧ s 98 17 = tq3 98 17 ∧ s 98 18 = tq3 98 18 ∧ s 98 13 = tq3 98 13 ∧ s 98 14 = tq3 98 14 ∧ s 98 5 = σ2 98 5 ∧ s 98 6 = σ2 98 6 ∧ s 98 7 = σ2 98 7 ∧ s 98 8 = H23 ∧ s 98 9 = σ2 98 9 ∧ s 101 18 = σ2 101 18 ∧ s 101 25 = σ2 101 25 ∧ s 101 43 = σ2 101 43 ∧ s = h_up s10 98 8 H23) _ (if_98_8 Is10 (by omega)) (Fs10.up rfl) ⟨es10.1, es10.2.1, es10.2.2.1, es10.2.2.2.1, es10.2.2.2.2.1, es10.2.2.2.2.2.1, es10.2.2.2.2.2.2.1, es10.2.2.2.2.2.2.2.1, es10.2.2.2.2.2.2.2.2.1, rfl, es10.2.2.2.2.2.2.2.2.2.2.1, es10.2.2.2.2.2.2.2.2.2.2.2.1, es10.2.2.2.2.2.2.2.2.2.2.2.2.1, es10.2.2.2.2.2.2.2.2.2.2.2.2.2.1, rfl⟩ (fun s24 Is24 Fs24 (es24 : s24 98 15 = tq3 98 15 ∧ s24 98 16 = tq3 98 16 ∧ s24 98 17 = tq3 98 17 ∧ s24 98 18 = tq3 98 18 ∧ s24 98 13 = tq3 98 13 ∧ s24 98 14 = tq3 98 14 ∧ s24 98 5 = σ2 98 5 ∧ s24 98 6 = σ2 98 6 ∧ s24 98 7 = σ2 98 7 ∧ s24 98 8 = H23 ∧ s24 98 9 = σ2 98 9 ∧ s24 101 18 = σ2 101 18 ∧ s24 101 25 = σ2 101 25 ∧ s24 101 43 = σ2 101 43 ∧ s24 = h_up s10 98 8 H23) => ?_)))
    refine h_iload_n (pc' := 28) rfl rfl rfl ?_
    refine h_iret rfl rfl (d_ret hlv14 ?_)
    refine h_iast (pc' := 60) rfl rfl rfl rfl hz13 (by omega) (by omega) ci_0 (h_fgt (E := fun s => s 98 15 = tq3 98 15 ∧ s 98 16 = tq3 98 16 ∧ s 98 17 = tq3 98 17 ∧ s 98 18 = tq3 98 18 ∧ s 98 13 = tq3 98 13 ∧ s 98 14 = tq3 98 14 ∧ s 98 5 = σ2 98 5 ∧ s 98 6 = σ2 98 6 ∧ s 98 7 = σ2 98 7 ∧ s 98 8 = H23 ∧ s 98 9 = σ2 98 9 ∧ s 101 18 = σ2 101 18 ∧ s 101 25 = σ2 101 25 ∧ s 101 43 = σ2 101 43 ∧ s = h_up s24 101 ((19 + (2 * c2)) + 1) 0) _ (ip_101_4 Is24 (by omega) (by omega)) (Fs24.up rfl) ⟨es24.1, es24.2.1, es24.2.2.1, es24.2.2.2.1, es24.2.2.2.2.1, es24.2.2.2.2.2.1, es24.2.2.2.2.2.2.1, es24.2.2.2.2.2.2.2.1, es24.2.2.2.2.2.2.2.2.1, es24.2.2.2.2.2.2.2.2.2.1, es24.2.2.2.2.2.2.2.2.2.2.1, h_up_n2 (by omega) es24.2.2.2.2.2.2.2.2.2.2.2.1, h_up_n2 (by omega) es24.2.2.2.2.2.2.2.2.2.2.2.2.1, h_up_n2 (by omega) es24.2.2.2.2.2.2.2.2.2.2.2.2.2.1, rfl⟩ (fun s25 Is25 Fs25 (es25 : s25 98 15 = tq3 98 15 ∧ s25 98 16 = tq3 98 16 ∧ s25 98 17 = tq3 98 17 ∧ s25 98 18 = tq3 98 18 ∧ s25 98 13 = tq3 98 13 ∧ s25 98 14 = tq3 98 14 ∧ s25 98 5 = σ2 98 5 ∧ s25 98 6 = σ2 98 6 ∧ s25 98 7 = σ2 98 7 ∧ s25 98 8 = H23 ∧ s25 98 9 = σ2 98 9 ∧ s25 101 18 = σ2 101 18 ∧ s25 101 25 = σ2 101 25 ∧ s25 101 43 = σ2 101 43 ∧ s25 = h_up s24 101 ((19 + (2 * c2)) + 1) 0) => ?_))
    clear hz13
    refine h_aload_n (pc' := 61) rfl rfl rfl ?_
    refine h_getR (pc' := 64) rfl rfl rfl rfl rfl ?_
    refine h_iload_n (pc' := 65) rfl rfl rfl ?_
    refine h_bipush (pc' := 67) (x := (Int32.ofInt 6)) rfl rfl cb_6 ?_
    refine h_iadd (pc' := 68) (c := 25) rfl rfl ci_19 ci_6 rfl (by omega) (by omega) (fun z26 hz26 => ?_)
    refine h_dup2 (pc' := 69) rfl rfl rfl ?_
    refine h_iald (pc' := 70) (v := σ2 101 25) rfl rfl rfl hz26 (by omega) (by omega) es25.2.2.2.2.2.2.2.2.2.2.2.2.1 (fun z27 hz27 => ?_)
    have tz27 := ty_101_5 hI2 25 (by omega)
    refine h_iconst (pc' := 71) (x := (Int32.ofInt 1)) rfl rfl rfl ?_
    refine h_iadd (pc' := 72) rfl rfl hz27 ci_1 rfl (by omega) (by omega) (fun z28 hz28 => ?_)
    clear hz27
    refine h_iast (pc' := 73) rfl rfl rfl rfl hz26 (by omega) (by omega) hz28 (h_fgt (E := fun s => s 98 15 = tq3 98 15 ∧ s 98 16 = tq3 98 16 ∧ s 98 17 = tq3 98 17 ∧ s 98 18 = tq3 98 18 ∧ s 98 13 = tq3 98 13 ∧ s 98 14 = tq3 98 14 ∧ s 98 5 = σ2 98 5 ∧ s 98 6 = σ2 98 6 ∧ s 98 7 = σ2 98 7 ∧ s 98 8 = H23 ∧ s 98 9 = σ2 98 9 ∧ s 101 18 = σ2 101 18 ∧ s 101 25 = ((σ2 101 25) + 1) ∧ s 101 43 = σ2 101 43 ∧ s = h_up s25 101 25 ((σ2 101 25) + 1)) _ (ip_101_5 Is25 (by omega) (by omega)) (Fs25.up rfl) ⟨es25.1, es25.2.1, es25.2.2.1, es25.2.2.2.1, es25.2.2.2.2.1, es25.2.2.2.2.2.1, es25.2.2.2.2.2.2.1, es25.2.2.2.2.2.2.2.1, es25.2.2.2.2.2.2.2.2.1, es25.2.2.2.2.2.2.2.2.2.1, es25.2.2.2.2.2.2.2.2.2.2.1, es25.2.2.2.2.2.2.2.2.2.2.2.1, rfl, es25.2.2.2.2.2.2.2.2.2.2.2.2.2.1, rfl⟩ (fun s29 Is29 Fs29 (es29 : s29 98 15 = tq3 98 15 ∧ s29 98 16 = tq3 98 16 ∧ s29 98 17 = tq3 98 17 ∧ s29 98 18 = tq3 98 18 ∧ s29 98 13 = tq3 98 13 ∧ s29 98 14 = tq3 98 14 ∧ s29 98 5 = σ2 98 5 ∧ s29 98 6 = σ2 98 6 ∧ s29 98 7 = σ2 98 7 ∧ s29 98 8 = H23 ∧ s29 98 9 = σ2 98 9 ∧ s29 101 18 = σ2 101 18 ∧ s29 101 25 = ((σ2 101 25) + 1) ∧ s29 101 43 = σ2 101 43 ∧ s29 = h_up s25 101 25 ((σ2 101 25) + 1)) => ?_))
    clear hz26
    refine d_toL (g_inj ns) hlw1 hRq3 (fun lvw30 memw30 hlw30 hRw30 => ?_)
    show h_T g_P (g_Y ns) 60 13 [(0, .ref 63), (1, .ref 72)] [.int rq3x] sq3 _
    refine h_istore_n (pc' := 14) (M := [(2, .int rq3x), (0, .ref 63), (1, .ref 72)]) rfl rfl rfl rfl ?_
    refine h_aload_n (pc' := 15) rfl rfl rfl ?_
    refine h_call (sp := false) (pc' := 18) (M := [(0, .ref 63)]) rfl rfl rfl rfl rfl rfl rfl rfl ?_
    refine h_aload_n (pc' := 1) rfl rfl rfl ?_
    refine h_getI (pc' := 4) (v := sq3 63 2) rfl rfl rfl rfl rfl rfl (fun z31 hz31 => ?_)
    have tz31 := tf_63_2 Isq3
    refine h_zne (tg := 22) (pc' := 7) rfl rfl rfl hz31 (fun c32 => ?_) (fun c32 => absurd c32 (by omega))
    clear hz31
    refine h_iconst (pc' := 23) (x := (Int32.ofInt 0)) rfl rfl rfl ?_
    refine h_zret rfl rfl ci_0 (by omega) (h_Kv ?_)
    refine h_zeq (tg := 44) (pc' := 21) rfl rfl rfl ci_0 (fun c33 => ?_) (fun c33 => absurd c33 (by omega))
    refine h_aload_n (pc' := 45) rfl rfl rfl ?_
    refine h_iconst (pc' := 46) (x := (Int32.ofInt 5)) rfl rfl rfl ?_
    refine h_call (sp := false) (pc' := 49) (M := [(0, .ref 63), (1, .int (Int32.ofInt 5))]) rfl rfl rfl rfl rfl rfl rfl rfl ?_
    refine h_aload_n (pc' := 1) rfl rfl rfl ?_
    refine h_getI (pc' := 4) (v := sq3 63 2) rfl rfl rfl rfl rfl rfl (fun z34 hz34 => ?_)
    refine h_zne (tg := 30) (pc' := 7) rfl rfl rfl hz34 (fun c35 => ?_) (fun c35 => absurd c35 (by omega))
    clear hz34
    refine h_aload_n (pc' := 31) rfl rfl rfl ?_
    refine h_getI (pc' := 34) (v := sq3 63 2) rfl rfl rfl rfl rfl rfl (fun z36 hz36 => ?_)
    refine h_zne (tg := 60) (pc' := 37) rfl rfl rfl hz36 (fun c37 => ?_) (fun c37 => absurd c37 (by omega))
    clear hz36
    refine h_aload_n (pc' := 61) rfl rfl rfl ?_
    refine h_getR (pc' := 64) rfl rfl rfl rfl rfl ?_
    refine h_getI (pc' := 67) (v := sq3 64 5) rfl rfl rfl rfl rfl rfl (fun z38 hz38 => ?_)
    have tz38 := tf_64_5 Isq3
    refine h_istore_n (pc' := 68) (M := [(2, .int z38), (0, .ref 63), (1, .int (Int32.ofInt 5))]) rfl rfl rfl rfl ?_
    refine h_aload_n (pc' := 69) rfl rfl rfl ?_
    refine h_call (sp := false) (pc' := 72) (M := [(0, .ref 63)]) rfl rfl rfl rfl rfl rfl rfl rfl ?_
    refine h_aload_n (pc' := 1) rfl rfl rfl ?_
    refine h_getI (pc' := 4) (v := sq3 63 2) rfl rfl rfl rfl rfl rfl (fun z39 hz39 => ?_)
    refine h_zne (tg := 37) (pc' := 7) rfl rfl rfl hz39 (fun c40 => ?_) (fun c40 => absurd c40 (by omega))
    clear hz39
    refine h_vret rfl rfl (h_Kn ?_)
    refine h_iload_n (pc' := 73) rfl rfl rfl ?_
    refine h_iret rfl rfl (h_Kv ?_)
    refine h_istore_n (pc' := 50) (M := [(3, .int z38), (2, .int rq3x), (0, .ref 63), (1, .ref 72)]) rfl rfl rfl rfl ?_
    refine h_aload_n (pc' := 51) rfl rfl rfl ?_
    refine h_getI (pc' := 54) (v := sq3 63 2) rfl rfl rfl rfl rfl rfl (fun z41 hz41 => ?_)
    refine h_zne (tg := 64) (pc' := 57) rfl rfl rfl hz41 (fun c42 => ?_) (fun c42 => absurd c42 (by omega))
    clear hz41
    exact h_wk [(0, .ref 63)] ⟨rfl, trivial⟩ (kx0 _ _ Isq3 Is29 Fsq3 Fs29 (by omega) (by omega) (by omega) (by omega) (by omega) (fun h => absurd h (by omega)) (Or.inl ⟨by omega, by omega, by omega, by omega⟩) _ _ (h_al_ok ⟨rfl, trivial⟩ hlw30) hRw30)
  · show h_T g_P (g_Y ns) 150 6 [(0, .ref 98)] [.int rq3m] tq3 _
    refine h_istore_n (pc' := 7) (M := [(1, .int rq3m), (0, .ref 98)]) rfl rfl rfl rfl ?_
    have oH43 : tq3 98 8 = σ2 98 8 := etq3_9
    have uH43 := tf_98_8 Itq3
    refine lm_hi _ Itq3 rq3m _ hq3m (by omega) (fun H43 hH43 => (h_fgt (E := fun s => s 98 15 = tq3 98 15 ∧ s 98 16 = tq3 98 16 ∧ s 98 17 = tq3 98 17 ∧ s 98 18 = tq3 98 18 ∧ s 98 13 = tq3 98 13 ∧ s 98 14 = tq3 98 14 ∧ s 98 5 = σ2 98 5 ∧ s 98 6 = σ2 98 6 ∧ s 98 7 = σ2 98 7 ∧ s 98 8 = H43 ∧ s 98 9 = σ2 98 9 ∧ s 101 18 = σ2 101 18 ∧ s 101 25 = σ2 101 25 ∧ s 101 43 = σ2 101 43 ∧ s = h_up tq3 98 8 H43) _ (if_98_8 Itq3 (by omega)) (Ftq3.up rfl) ⟨rfl, rfl, rfl, rfl, rfl, rfl, etq3_6, etq3_7, etq3_8, rfl, etq3_10, etq3_11, etq3_12, etq3_13, rfl⟩ (fun s44 Is44 Fs44 (es44 : s44 98 15 = tq3 98 15 ∧ s44 98 16 = tq3 98 16 ∧ s44 98 17 = tq3 98 17 ∧ s44 98 18 = tq3 98 18 ∧ s44 98 13 = tq3 98 13 ∧ s44 98 14 = tq3 98 14 ∧ s44 98 5 = σ2 98 5 ∧ s44 98 6 = σ2 98 6 ∧ s44 98 7 = σ2 98 7 ∧ s44 98 8 = H43 ∧ s44 98 9 = σ2 98 9 ∧ s44 101 18 = σ2 101 18 ∧ s44 101 25 = σ2 101 25 ∧ s44 101 43 = σ2 101 43 ∧ s44 = h_up tq3 98 8 H43) => ?_)))
    refine h_iload_n (pc' := 28) rfl rfl rfl ?_
    refine h_iret rfl rfl (d_ret hlv2 ?_)
    refine h_istore_n (pc' := 5) (M := [(3, .int rq3m), (0, .ref 98), (1, .int (Int32.ofInt 19)), (2, .int y2)]) rfl rfl rfl rfl ?_
    refine d_toL (g_inj ns) hlw1 hRq3 (fun lvw45 memw45 hlw45 hRw45 => ?_)
    show h_T g_P (g_Y ns) 60 13 [(0, .ref 63), (1, .ref 72)] [.int rq3x] sq3 _
    refine h_istore_n (pc' := 14) (M := [(2, .int rq3x), (0, .ref 63), (1, .ref 72)]) rfl rfl rfl rfl ?_
    refine h_wk [(0, .ref 63), (1, .ref 72), (2, .int rq3x)] ⟨rfl, rfl, rfl, trivial⟩ (ls_feu_c Isq3 Is44 (hTL.fr (Fsq3.mono rfl) (Fs44.mono rfl)) rq3x _ hq3x y2 _ hy2 rq3m _ hq3m (σ2 98 8) (by omega) (by omega) (by omega) (by omega) (by omega) (by omega) (by omega) (by omega) (by omega) (by omega) (d_mkH ((Gsq3 66 8 rfl)) ((Gsq3 66 9 rfl)) ((Gsq3 66 10 rfl)) ((Gsq3 69 2 rfl)) ((Gsq3 72 2 rfl)) ((Gsq3 63 5 rfl)) (fun j => (Gsq3 67 j rfl)) (fun j => (Gsq3 68 j rfl)) (fun j => (Gsq3 70 j rfl)) (fun j => (Gsq3 71 j rfl)) (fun j => (Gsq3 73 j rfl)) (fun j => (Gsq3 74 j rfl)) (fun j => (Gsq3 75 j rfl)) (fun j => (Gsq3 76 j rfl)) (fun j => (Gsq3 77 j rfl)) (fun j => (Gsq3 78 j rfl)) ((h_upd es44.2.2.2.2.2.2.2.2.2.2.2.2.2.2 (by decide)).trans (Gtq3 98 5 rfl)) ((h_upd es44.2.2.2.2.2.2.2.2.2.2.2.2.2.2 (by decide)).trans (Gtq3 98 6 rfl)) ((h_upd es44.2.2.2.2.2.2.2.2.2.2.2.2.2.2 (by decide)).trans (Gtq3 98 7 rfl)) ((h_upd es44.2.2.2.2.2.2.2.2.2.2.2.2.2.2 (by decide)).trans (Gtq3 98 9 rfl)) (fun j => (h_upo es44.2.2.2.2.2.2.2.2.2.2.2.2.2.2 rfl j).trans (Gtq3 101 j rfl)) (pr10)) (by omega) (by omega) (by omega) (by omega) (by omega) (by omega) (pcq3.elim (fun pcq3 => (Or.inl ⟨by omega, by omega, by omega, by omega, by omega, by omega, by omega⟩)) (fun pcq3 => (pcq3.elim (fun pcq3 => (Or.inr (Or.inl ⟨by omega, by omega, by omega, by omega, by omega, by omega, by omega⟩))) (fun pcq3 => (pcq3.elim (fun pcq3 => (Or.inr (Or.inr (Or.inl ⟨by omega, by omega, by omega, by omega, by omega, by omega, by omega, by omega, by omega, by omega⟩)))) (fun pcq3 => (Or.inr (Or.inr (Or.inr ⟨by omega, by omega, by omega, by omega, by omega, by omega, by omega⟩))))))))) (fun sq46 tq46 Isq46 Itq46 Gsq46 Gtq46   yq46_0 yq46_1 yq46_2 yq46_3 yq46_4 yq46_5 pcq46 lvq46 memq46 hlq46 hRq46 => ?_) _ _ (h_al_ok ⟨rfl, rfl, rfl, rfl, trivial⟩ hlw45) hRw45)
    · have Fsq46 := (Gsq46.mono (B := k_pl) rfl).tr Fsq3
      have Ftq46 := (Gtq46.mono (B := k_pm) rfl).tr Fs44
      have Isq46 := Isq46
      have Itq46 := Itq46
      have Gsq46 := Gsq46
      have Gtq46 := Gtq46
      have esq46_6 : sq46 64 1 = σ1 64 1 := (Gsq46 64 1 rfl).trans esq3_6
      show h_T g_P (g_Y ns) 60 64 [(0, .ref 63)] [] sq46 _
      clear hq3m hq3x
      refine d_toM (g_inj ns) hlq46 hRq46 (fun lvw47 memw47 hlw47 hRw47 => ?_)
      show h_T g_P (g_Y ns) 151 73 [(0, .ref 98)] [] tq46 _
      refine d_toL (g_inj ns) hlw47 hRw47 (fun lvw48 memw48 hlw48 hRw48 => ?_)
      show h_T g_P (g_Y ns) 60 64 [(0, .ref 63)] [] sq46 _
      exact h_wk [(0, .ref 63)] ⟨rfl, trivial⟩ (kx0 _ _ Isq46 Itq46 Fsq46 Ftq46 (by omega) (by omega) (by omega) (by omega) (by omega) (yq46_5) (pcq46.elim (fun pcq46 => (Or.inl ⟨by omega, by omega, by omega, by omega⟩)) (fun pcq46 => (pcq46.elim (fun pcq46 => (Or.inr (Or.inl ⟨by omega, by omega, by omega, by omega, by omega, by omega⟩))) (fun pcq46 => (pcq46.elim (fun pcq46 => (Or.inr (Or.inr (Or.inl ⟨by omega, by omega, by omega, by omega, by omega, by omega⟩)))) (fun pcq46 => (pcq46.elim (fun pcq46 => (Or.inr (Or.inr (Or.inr (Or.inl ⟨by omega, by omega, by omega, by omega, by omega, by omega, by omega, by omega, by omega⟩))))) (fun pcq46 => (Or.inr (Or.inr (Or.inr (Or.inr ⟨by omega, by omega, by omega, by omega, by omega, by omega⟩)))))))))))) _ _ (h_al_ok ⟨rfl, trivial⟩ hlw48) hRw48)
set_option maxHeartbeats 100000000 in
theorem ls_feu {ns : Nat} {σ1 σ2 : h_S} (hI1 : h_I σ1) (hI2 : h_I σ2) (hTL : d_tape σ1 σ2) (x1 : Int32) (a1 : Int) (hx1 : x1.toInt = a1) (y1 : Int32) (c1 : Int) (hy1 : y1.toInt = c1) (pr0 : σ1 64 2 = σ2 98 15) (pr1 : σ1 64 4 = σ2 98 16) (pr2 : σ1 63 2 = σ2 98 13) (pr3 : σ1 66 8 = σ2 98 5) (pr4 : σ1 66 9 = σ2 98 6) (pr5 : σ1 66 10 = σ2 101 43) (pr6 : σ1 69 2 = σ2 101 18) (pr7 : σ1 72 2 = σ2 101 25) (pr8 : σ1 63 5 = σ2 98 7) (pr9 : σ1 64 2 ≤ σ1 64 1) (pr10 : d_RD σ1 σ2) (pr11 : a1 = c1) (pr12 : a1 = 5) (pc0 : ((σ1 63 2 = 0) ∧ (σ2 98 13 = 0))) {cs1 cs2 : List d_Fr} {Q : d_Q} (kx0 : ∀ (s t : h_S), h_I s → h_I t → h_F (k_in k_pl) s σ1 → h_F (k_in k_pm) t σ2 → (s 64 2 = t 98 15) → (s 64 4 = t 98 16) → (s 63 2 = t 98 13) → (s 64 2 ≤ s 64 1) → (σ1 64 2 ≤ s 64 2) → (d_ok s t) → (((1 ≤ s 63 2 ∧ s 63 2 ≤ 6) ∧ (1 ≤ t 98 13 ∧ t 98 13 ≤ 6) ∧ (s 63 2 = t 98 13) ∧ (s 63 3 = t 98 14)) ∨ ((s 63 2 = 0) ∧ (s 64 3 = 3) ∧ (t 98 13 = 0) ∧ (t 98 17 = 3) ∧ (s 64 4 < s 64 2) ∧ (σ1 64 2 < s 64 2))) → ∀ lv2 mem2, h_loc [(0, .ref 98)] lv2 → h_R (g_Y ns) t mem2 → h_T g_P (g_Y ns) 56 180 [(0, .ref 63)] [] s (d_cs g_P (g_Y ns) cs1 (d_L g_P (g_Y ns) (154, 165, lv2, []) cs2 mem2 Q))) (kx1 : ∀ (s t : h_S), h_I s → h_I t → h_F (k_in k_pl) s σ1 → h_F (k_in k_pm) t σ2 → (s 64 2 = t 98 15) → (s 64 4 = t 98 16) → (s 63 2 = t 98 13) → (s 64 2 ≤ s 64 1) → (σ1 64 2 ≤ s 64 2) → (((1 ≤ s 63 2 ∧ s 63 2 ≤ 6) ∧ (1 ≤ t 98 13 ∧ t 98 13 ≤ 6) ∧ (s 63 2 = t 98 13) ∧ (s 63 3 = t 98 14))) → ∀ lv2 mem2, h_loc [(0, .ref 98)] lv2 → h_R (g_Y ns) t mem2 → h_T g_P (g_Y ns) 56 180 [(0, .ref 63)] [] s (d_cs g_P (g_Y ns) cs1 (d_L g_P (g_Y ns) (154, 139, lv2, []) cs2 mem2 Q))) : ∀ lv2 mem2, h_loc [(0, .ref 98), (1, .int y1)] lv2 → h_R (g_Y ns) σ2 mem2 → h_T g_P (g_Y ns) 56 102 [(0, .ref 63), (1, .int x1)] [] σ1 (d_cs g_P (g_Y ns) cs1 (d_L g_P (g_Y ns) (154, 23, lv2, []) cs2 mem2 Q)) := by
  intro lv2 mem2 hl2 hR2
  have hT := hTL.1
  have hL := hTL.2
  have F1 : h_F (k_in k_pl) σ1 σ1 := h_F.rf
  have F2 : h_F (k_in k_pm) σ2 σ2 := h_F.rf
  have ge0 := tf_64_1 hI1
  have ge1 := tf_66_8 hI1
  have ge2 := tf_66_9 hI1
  have ge3 := tf_66_10 hI1
  have ge4 := tf_69_2 hI1
  have ge5 := tf_72_2 hI1
  have ge6 := tf_63_5 hI1
  have ge7 := tf_63_2 hI1
  have ge8 := tf_98_8 hI2
  have ge9 := tf_98_9 hI2
  have ge10 := tf_98_13 hI2
  rcases pc0 with pc0
  · show h_T g_P (g_Y ns) 56 102 [(0, .ref 63), (1, .int x1)] [] σ1 _
    refine h_aload_n (pc' := 103) rfl rfl rfl ?_
    refine h_aload_n (pc' := 104) rfl rfl rfl ?_
    refine h_getR (pc' := 107) rfl rfl rfl rfl rfl ?_
    refine h_getR (pc' := 110) rfl rfl rfl rfl rfl ?_
    refine d_call (g_inj ns) (pc' := 113) (m := 60) (M := [(0, .ref 63), (1, .ref 72)]) (rest := []) ⟨false, _, _, _, _, _, _, rfl, rfl, rfl, rfl, rfl, rfl, rfl⟩ (fun lv1 hlv1 => ?_)
    refine h_aload_n (pc' := 1) rfl rfl rfl ?_
    refine h_aload_n (pc' := 2) rfl rfl rfl ?_
    refine h_call (sp := false) (pc' := 5) (M := [(0, .ref 72)]) rfl rfl rfl rfl rfl rfl rfl rfl ?_
    refine h_aload_n (pc' := 1) rfl rfl rfl ?_
    refine h_getI (pc' := 4) (v := σ1 72 2) rfl rfl rfl rfl rfl rfl (fun z2 hz2 => ?_)
    have tz2 := tf_72_2 hI1
    refine h_iconst (pc' := 5) (x := (Int32.ofInt 3)) rfl rfl rfl ?_
    refine h_clt (tg := 12) (pc' := 8) rfl rfl rfl hz2 ci_3 (fun c3 => ?_) (fun c3 => ?_)
    · clear hz2
      refine h_iconst (pc' := 13) (x := (Int32.ofInt 0)) rfl rfl rfl ?_
      refine h_zret rfl rfl ci_0 (by omega) (h_Kv ?_)
      refine d_call (g_inj ns) (pc' := 8) (m := 57) (M := [(0, .ref 63), (1, .int (Int32.ofInt 0))]) (rest := []) ⟨false, _, _, _, _, _, _, rfl, rfl, rfl, rfl, rfl, rfl, rfl⟩ (fun lv4 hlv4 => ?_)
      refine h_iload_n (pc' := 1) rfl rfl rfl ?_
      refine h_zeq (tg := 16) (pc' := 4) rfl rfl rfl ci_0 (fun c5 => ?_) (fun c5 => absurd c5 (by omega))
      refine h_aload_n (pc' := 17) rfl rfl rfl ?_
      refine d_toM (g_inj ns) hl2 hR2 (fun lvw6 memw6 hlw6 hRw6 => ?_)
      show h_T g_P (g_Y ns) 154 23 [(0, .ref 98), (1, .int y1)] [] σ2 _
      refine h_iload_n (pc' := 24) rfl rfl rfl ?_
      refine h_iconst (pc' := 25) (x := (Int32.ofInt 3)) rfl rfl rfl ?_
      refine h_cgt (tg := 37) (pc' := 28) rfl rfl rfl hy1 ci_3 (fun c7 => ?_) (fun c7 => absurd c7 (by omega))
      refine h_iload_n (pc' := 38) rfl rfl rfl ?_
      refine h_iconst (pc' := 39) (x := (Int32.ofInt 4)) rfl rfl rfl ?_
      refine h_cne (tg := 53) (pc' := 42) rfl rfl rfl hy1 ci_4 (fun c8 => ?_) (fun c8 => absurd c8 (by omega))
      refine h_iload_n (pc' := 54) rfl rfl rfl ?_
      refine h_iconst (pc' := 55) (x := (Int32.ofInt 5)) rfl rfl rfl ?_
      refine h_cne (tg := 69) (pc' := 58) rfl rfl rfl hy1 ci_5 (fun c9 => absurd c9 (by omega)) (fun c9 => ?_)
      refine h_aload_n (pc' := 59) rfl rfl rfl ?_
      refine h_getR (pc' := 62) rfl rfl rfl rfl rfl ?_
      refine h_bipush (pc' := 64) (x := (Int32.ofInt 25)) rfl rfl cb_25 ?_
      refine h_iald (pc' := 65) (v := σ2 101 25) rfl rfl rfl ci_25 (by omega) (by omega) rfl (fun z10 hz10 => ?_)
      have tz10 := ty_101_5 hI2 25 (by omega)
      refine h_iconst (pc' := 66) (x := (Int32.ofInt 3)) rfl rfl rfl ?_
      refine h_ceq (tg := 83) (pc' := 69) rfl rfl rfl hz10 ci_3 (fun c11 => absurd c11 (by omega)) (fun c11 => ?_)
      clear hz10
      refine h_iload_n (pc' := 70) rfl rfl rfl ?_
      refine h_bipush (pc' := 72) (x := (Int32.ofInt 6)) rfl rfl cb_6 ?_
      refine h_cne (tg := 88) (pc' := 75) rfl rfl rfl hy1 ci_6 (fun c12 => ?_) (fun c12 => absurd c12 (by omega))
      refine h_iload_n (pc' := 89) rfl rfl rfl ?_
      refine h_bipush (pc' := 91) (x := (Int32.ofInt 7)) rfl rfl cb_7 ?_
      refine h_cne (tg := 106) (pc' := 94) rfl rfl rfl hy1 ci_7 (fun c13 => ?_) (fun c13 => absurd c13 (by omega))
      refine h_aload_n (pc' := 107) rfl rfl rfl ?_
      refine h_aload_n (pc' := 108) rfl rfl rfl ?_
      refine h_getI (pc' := 111) (v := σ2 98 7) rfl rfl rfl rfl rfl rfl (fun z14 hz14 => ?_)
      have tz14 := tf_98_7 hI2
      refine h_zne (tg := 120) (pc' := 114) rfl rfl rfl hz14 (fun c15 => ?_) (fun c15 => ?_)
      · clear hz14
        refine h_iconst (pc' := 121) (x := (Int32.ofInt 1)) rfl rfl rfl ?_
        refine h_goto (pc' := 125) rfl rfl ?_
        refine h_put (pc' := 128) rfl rfl rfl rfl rfl rfl ci_1 (h_fb ci_1 (by omega)) (h_fgt (E := fun s => s 98 15 = σ2 98 15 ∧ s 98 16 = σ2 98 16 ∧ s 98 17 = σ2 98 17 ∧ s 98 18 = σ2 98 18 ∧ s 98 13 = σ2 98 13 ∧ s 98 14 = σ2 98 14 ∧ s 98 5 = σ2 98 5 ∧ s 98 6 = σ2 98 6 ∧ s 98 7 = 1 ∧ s 98 8 = σ2 98 8 ∧ s 98 9 = σ2 98 9 ∧ s 101 18 = σ2 101 18 ∧ s 101 25 = σ2 101 25 ∧ s 101 43 = σ2 101 43 ∧ s = h_up σ2 98 7 1) _ (if_98_7 hI2 (by omega)) (F2.up rfl) ⟨rfl, rfl, rfl, rfl, rfl, rfl, rfl, rfl, rfl, rfl, rfl, rfl, rfl, rfl, rfl⟩ (fun s16 Is16 Fs16 (es16 : s16 98 15 = σ2 98 15 ∧ s16 98 16 = σ2 98 16 ∧ s16 98 17 = σ2 98 17 ∧ s16 98 18 = σ2 98 18 ∧ s16 98 13 = σ2 98 13 ∧ s16 98 14 = σ2 98 14 ∧ s16 98 5 = σ2 98 5 ∧ s16 98 6 = σ2 98 6 ∧ s16 98 7 = 1 ∧ s16 98 8 = σ2 98 8 ∧ s16 98 9 = σ2 98 9 ∧ s16 101 18 = σ2 101 18 ∧ s16 101 25 = σ2 101 25 ∧ s16 101 43 = σ2 101 43 ∧ s16 = h_up σ2 98 7 1) => ?_))
        refine h_aload_n (pc' := 129) rfl rfl rfl ?_
        refine d_pcall (g_inj ns) (m1 := 54) (pc1' := 20) (M1 := [(0, .ref 63)]) (rest1 := []) (m2 := 148) (pc2' := 132) (M2 := [(0, .ref 98)]) (rest2 := []) ⟨false, _, _, _, _, _, _, rfl, rfl, rfl, rfl, rfl, rfl, rfl⟩ ⟨false, _, _, _, _, _, _, rfl, rfl, rfl, rfl, rfl, rfl, rfl⟩ hRw6 ?_
        refine pp_step hI1 Is16 (hTL.fr (F1.mono rfl) (Fs16.mono rfl)) (by omega) (by omega) (by omega) (by omega) (Or.inr ⟨by omega, by omega⟩) (fun sq17 tq17 Isq17 Itq17 Gsq17 Gtq17 yq17_0 yq17_1 yq17_2 yq17_3 yq17_4 pcq17 memq17 hRq17 => ?_)
        have Fsq17 := (Gsq17.mono (B := k_pl) rfl).tr F1
        have Ftq17 := (Gtq17.mono (B := k_pm) rfl).tr Fs16
        have esq17_6 : sq17 64 1 = σ1 64 1 := (Gsq17 64 1 rfl).trans rfl
        have esq17_7 : sq17 66 8 = σ1 66 8 := (Gsq17 66 8 rfl).trans rfl
        have esq17_8 : sq17 66 9 = σ1 66 9 := (Gsq17 66 9 rfl).trans rfl
        have esq17_9 : sq17 66 10 = σ1 66 10 := (Gsq17 66 10 rfl).trans rfl
        have esq17_10 : sq17 69 2 = σ1 69 2 := (Gsq17 69 2 rfl).trans rfl
        have esq17_11 : sq17 72 2 = σ1 72 2 := (Gsq17 72 2 rfl).trans rfl
        have esq17_12 : sq17 63 5 = σ1 63 5 := (Gsq17 63 5 rfl).trans rfl
        have etq17_6 : tq17 98 5 = σ2 98 5 := (Gtq17 98 5 rfl).trans es16.2.2.2.2.2.2.1
        have etq17_7 : tq17 98 6 = σ2 98 6 := (Gtq17 98 6 rfl).trans es16.2.2.2.2.2.2.2.1
        have etq17_8 : tq17 98 7 = 1 := (Gtq17 98 7 rfl).trans es16.2.2.2.2.2.2.2.2.1
        have etq17_9 : tq17 98 8 = σ2 98 8 := (Gtq17 98 8 rfl).trans es16.2.2.2.2.2.2.2.2.2.1
        have etq17_10 : tq17 98 9 = σ2 98 9 := (Gtq17 98 9 rfl).trans es16.2.2.2.2.2.2.2.2.2.2.1
        have etq17_11 : tq17 101 18 = σ2 101 18 := (Gtq17 101 18 rfl).trans es16.2.2.2.2.2.2.2.2.2.2.2.1
        have etq17_12 : tq17 101 25 = σ2 101 25 := (Gtq17 101 25 rfl).trans es16.2.2.2.2.2.2.2.2.2.2.2.2.1
        have etq17_13 : tq17 101 43 = σ2 101 43 := (Gtq17 101 43 rfl).trans es16.2.2.2.2.2.2.2.2.2.2.2.2.2.1
        show h_T g_P (g_Y ns) 154 132 [(0, .ref 98), (1, .int y1)] [] tq17 _
        refine h_aload_n (pc' := 133) rfl rfl rfl ?_
        refine h_getI (pc' := 136) (v := tq17 98 13) rfl rfl rfl rfl rfl rfl (fun z18 hz18 => ?_)
        have tz18 := tf_98_13 Itq17
        refine h_zle (tg := 140) (pc' := 139) rfl rfl rfl hz18 (fun c19 => ?_) (fun c19 => ?_)
        · clear hz18
          refine h_aload_n (pc' := 141) rfl rfl rfl ?_
          refine h_iload_n (pc' := 142) rfl rfl rfl ?_
          refine d_call (g_inj ns) (pc' := 145) (m := 153) (M := [(0, .ref 98), (1, .int y1)]) (rest := []) ⟨false, _, _, _, _, _, _, rfl, rfl, rfl, rfl, rfl, rfl, rfl⟩ (fun lv20 hlv20 => ?_)
          refine h_iload_n (pc' := 1) rfl rfl rfl ?_
          refine h_iconst (pc' := 2) (x := (Int32.ofInt 3)) rfl rfl rfl ?_
          refine h_cgt (tg := 61) (pc' := 5) rfl rfl rfl hy1 ci_3 (fun c21 => ?_) (fun c21 => absurd c21 (by omega))
          refine h_iload_n (pc' := 62) rfl rfl rfl ?_
          refine h_iconst (pc' := 63) (x := (Int32.ofInt 4)) rfl rfl rfl ?_
          refine h_cne (tg := 82) (pc' := 66) rfl rfl rfl hy1 ci_4 (fun c22 => ?_) (fun c22 => absurd c22 (by omega))
          refine h_iload_n (pc' := 83) rfl rfl rfl ?_
          refine h_iconst (pc' := 84) (x := (Int32.ofInt 5)) rfl rfl rfl ?_
          refine h_cne (tg := 103) (pc' := 87) rfl rfl rfl hy1 ci_5 (fun c23 => absurd c23 (by omega)) (fun c23 => ?_)
          refine h_aload_n (pc' := 88) rfl rfl rfl ?_
          refine h_bipush (pc' := 90) (x := (Int32.ofInt 19)) rfl rfl cb_19 ?_
          refine h_aload_n (pc' := 91) rfl rfl rfl ?_
          refine h_getR (pc' := 94) rfl rfl rfl rfl rfl ?_
          refine h_bipush (pc' := 96) (x := (Int32.ofInt 25)) rfl rfl cb_25 ?_
          refine h_iald (pc' := 97) (v := σ2 101 25) rfl rfl rfl ci_25 (by omega) (by omega) etq17_12 (fun z24 hz24 => ?_)
          refine d_call (g_inj ns) (pc' := 100) (m := 151) (M := [(0, .ref 98), (1, .int (Int32.ofInt 19)), (2, .int z24)]) (rest := []) ⟨false, _, _, _, _, _, _, rfl, rfl, rfl, rfl, rfl, rfl, rfl⟩ (fun lv25 hlv25 => ?_)
          refine d_toL (g_inj ns) hlw6 hRq17 (fun lvw26 memw26 hlw26 hRw26 => ?_)
          show h_T g_P (g_Y ns) 57 20 [(0, .ref 63), (1, .int (Int32.ofInt 0))] [] sq17 _
          refine h_vret rfl rfl (d_retn hlv4 ?_)
          refine h_wk [(0, .ref 63), (1, .ref 72)] ⟨rfl, rfl, trivial⟩ (ls_feu_b Isq17 Itq17 (hTL.fr (Fsq17.mono rfl) (Ftq17.mono rfl))  z24 _ hz24 (by omega) (by omega) (by omega) (by omega) (by omega) (by omega) (by omega) (by omega) (by omega) (by omega) (d_mk ((Gsq17 66 8 rfl)) ((Gsq17 66 9 rfl)) ((Gsq17 66 10 rfl)) ((Gsq17 69 2 rfl)) ((Gsq17 72 2 rfl)) ((Gsq17 63 5 rfl)) (fun j => (Gsq17 67 j rfl)) (fun j => (Gsq17 68 j rfl)) (fun j => (Gsq17 70 j rfl)) (fun j => (Gsq17 71 j rfl)) (fun j => (Gsq17 73 j rfl)) (fun j => (Gsq17 74 j rfl)) (fun j => (Gsq17 75 j rfl)) (fun j => (Gsq17 76 j rfl)) (fun j => (Gsq17 77 j rfl)) (fun j => (Gsq17 78 j rfl)) ((Gtq17 98 5 rfl).trans (h_upd es16.2.2.2.2.2.2.2.2.2.2.2.2.2.2 (by decide))) ((Gtq17 98 6 rfl).trans (h_upd es16.2.2.2.2.2.2.2.2.2.2.2.2.2.2 (by decide))) (by omega) ((Gtq17 98 8 rfl).trans (h_upd es16.2.2.2.2.2.2.2.2.2.2.2.2.2.2 (by decide))) ((Gtq17 98 9 rfl).trans (h_upd es16.2.2.2.2.2.2.2.2.2.2.2.2.2.2 (by decide))) (fun j => (Gtq17 101 j rfl).trans (h_upo es16.2.2.2.2.2.2.2.2.2.2.2.2.2.2 rfl j)) (pr10)) (by omega) (pcq17.elim (fun pcq17 => (by exfalso; omega)) (fun pcq17 => (pcq17.elim (fun pcq17 => (Or.inl ⟨by omega, by omega, by omega, by omega, by omega, by omega, by omega⟩)) (fun pcq17 => (pcq17.elim (fun pcq17 => (Or.inr (Or.inl ⟨by omega, by omega, by omega, by omega, by omega, by omega, by omega⟩))) (fun pcq17 => (pcq17.elim (fun pcq17 => (Or.inr (Or.inr (Or.inl ⟨by omega, by omega, by omega, by omega, by omega, by omega, by omega, by omega, by omega, by omega⟩)))) (fun pcq17 => (Or.inr (Or.inr (Or.inr ⟨by omega, by omega, by omega, by omega, by omega, by omega, by omega⟩))))))))))) (fun sq27 tq27 Isq27 Itq27 Gsq27 Gtq27   yq27_0 yq27_1 yq27_2 yq27_3 yq27_4 yq27_5 pcq27 lvq27 memq27 hlq27 hRq27 => ?_) _ _ (h_al_ok ⟨rfl, rfl, rfl, trivial⟩ hlw26) hRw26)
          · have Fsq27 := (Gsq27.mono (B := k_pl) rfl).tr Fsq17
            have Ftq27 := (Gtq27.mono (B := k_pm) rfl).tr Ftq17
            have Isq27 := Isq27
            have Itq27 := Itq27
            have Gsq27 := Gsq27
            have Gtq27 := Gtq27
            have esq27_6 : sq27 64 1 = σ1 64 1 := (Gsq27 64 1 rfl).trans esq17_6
            rcases pcq27 with pcq27 | pcq27
            · show h_T g_P (g_Y ns) 60 64 [(0, .ref 63)] [] sq27 _
              clear hz24
              refine h_vret rfl rfl (d_retn hlv1 ?_)
              refine h_goto (pc' := 150) rfl rfl ?_
              refine h_aload_n (pc' := 151) rfl rfl rfl ?_
              refine h_getI (pc' := 154) (v := sq27 63 2) rfl rfl rfl rfl rfl rfl (fun z28 hz28 => ?_)
              have tz28 := tf_63_2 Isq27
              refine h_zne (tg := 180) (pc' := 157) rfl rfl rfl hz28 (fun c29 => ?_) (fun c29 => absurd c29 (by omega))
              clear hz28
              refine d_toM (g_inj ns) hlq27 hRq27 (fun lvw30 memw30 hlw30 hRw30 => ?_)
              show h_T g_P (g_Y ns) 151 73 [(0, .ref 98)] [] tq27 _
              refine h_vret rfl rfl (d_retn hlv25 ?_)
              refine h_goto (pc' := 178) rfl rfl ?_
              refine h_vret rfl rfl (d_retn hlv20 ?_)
              refine h_aload_n (pc' := 146) rfl rfl rfl ?_
              refine h_getI (pc' := 149) (v := tq27 98 13) rfl rfl rfl rfl rfl rfl (fun z31 hz31 => ?_)
              have tz31 := tf_98_13 Itq27
              refine h_zne (tg := 165) (pc' := 152) rfl rfl rfl hz31 (fun c32 => ?_) (fun c32 => absurd c32 (by omega))
              clear hz31
              refine d_toL (g_inj ns) hlw30 hRw30 (fun lvw33 memw33 hlw33 hRw33 => ?_)
              show h_T g_P (g_Y ns) 56 180 [(0, .ref 63), (1, .int x1)] [] sq27 _
              exact h_wk [(0, .ref 63)] ⟨rfl, trivial⟩ (kx0 _ _ Isq27 Itq27 Fsq27 Ftq27 (by omega) (by omega) (by omega) (by omega) (by omega) (fun h => absurd h (by omega)) (Or.inl ⟨by omega, by omega, by omega, by omega⟩) _ _ (h_al_ok ⟨rfl, trivial⟩ hlw33) hRw33)
            · show h_T g_P (g_Y ns) 60 64 [(0, .ref 63)] [] sq27 _
              clear hz24
              refine h_vret rfl rfl (d_retn hlv1 ?_)
              refine h_goto (pc' := 150) rfl rfl ?_
              refine d_toM (g_inj ns) hlq27 hRq27 (fun lvw34 memw34 hlw34 hRw34 => ?_)
              show h_T g_P (g_Y ns) 151 73 [(0, .ref 98)] [] tq27 _
              refine h_vret rfl rfl (d_retn hlv25 ?_)
              refine h_goto (pc' := 178) rfl rfl ?_
              refine h_vret rfl rfl (d_retn hlv20 ?_)
              refine d_toL (g_inj ns) hlw34 hRw34 (fun lvw35 memw35 hlw35 hRw35 => ?_)
              show h_T g_P (g_Y ns) 56 150 [(0, .ref 63), (1, .int x1)] [] sq27 _
              refine h_wk [(0, .ref 63)] ⟨rfl, trivial⟩ (ls_sc Isq27 Itq27 (hTL.fr (Fsq27.mono rfl) (Ftq27.mono rfl))   (by omega) (by omega) (by omega) (by omega) (yq27_5) (pcq27.elim (fun pcq27 => (Or.inl ⟨by omega, by omega, by omega, by omega, by omega⟩)) (fun pcq27 => (pcq27.elim (fun pcq27 => (Or.inr (Or.inl ⟨by omega, by omega, by omega, by omega, by omega⟩))) (fun pcq27 => (pcq27.elim (fun pcq27 => (Or.inr (Or.inr (Or.inl ⟨by omega, by omega, by omega, by omega, by omega, by omega, by omega, by omega⟩)))) (fun pcq27 => (Or.inr (Or.inr (Or.inr ⟨by omega, by omega, by omega, by omega, by omega⟩))))))))) (fun sq36 tq36 Isq36 Itq36 Gsq36 Gtq36   yq36_0 yq36_1 yq36_2 yq36_3 yq36_4 yq36_5 pcq36 lvq36 memq36 hlq36 hRq36 => ?_) _ _ (h_al_ok ⟨rfl, trivial⟩ hlw35) hRw35)
              · have Fsq36 := (Gsq36.mono (B := k_pl) rfl).tr Fsq27
                have Ftq36 := (Gtq36.mono (B := k_pm) rfl).tr Ftq27
                have Isq36 := Isq36
                have Itq36 := Itq36
                have Gsq36 := Gsq36
                have Gtq36 := Gtq36
                have esq36_6 : sq36 64 1 = σ1 64 1 := (Gsq36 64 1 rfl).trans esq27_6
                rcases pcq36 with pcq36 | pcq36
                · show h_T g_P (g_Y ns) 56 180 [(0, .ref 63)] [] sq36 _
                  refine d_toM (g_inj ns) hlq36 hRq36 (fun lvw37 memw37 hlw37 hRw37 => ?_)
                  show h_T g_P (g_Y ns) 154 165 [(0, .ref 98)] [] tq36 _
                  refine d_toL (g_inj ns) hlw37 hRw37 (fun lvw38 memw38 hlw38 hRw38 => ?_)
                  show h_T g_P (g_Y ns) 56 180 [(0, .ref 63)] [] sq36 _
                  exact h_wk [(0, .ref 63)] ⟨rfl, trivial⟩ (kx0 _ _ Isq36 Itq36 Fsq36 Ftq36 (by omega) (by omega) (by omega) (by omega) (by omega) (fun h => absurd h (by omega)) (Or.inl ⟨by omega, by omega, by omega, by omega⟩) _ _ (h_al_ok ⟨rfl, trivial⟩ hlw38) hRw38)
                · show h_T g_P (g_Y ns) 56 180 [(0, .ref 63)] [] sq36 _
                  refine d_toM (g_inj ns) hlq36 hRq36 (fun lvw39 memw39 hlw39 hRw39 => ?_)
                  show h_T g_P (g_Y ns) 154 165 [(0, .ref 98)] [] tq36 _
                  refine d_toL (g_inj ns) hlw39 hRw39 (fun lvw40 memw40 hlw40 hRw40 => ?_)
                  show h_T g_P (g_Y ns) 56 180 [(0, .ref 63)] [] sq36 _
                  exact h_wk [(0, .ref 63)] ⟨rfl, trivial⟩ (kx0 _ _ Isq36 Itq36 Fsq36 Ftq36 (by omega) (by omega) (by omega) (by omega) (by omega) (yq36_5) (Or.inr ⟨by omega, by omega, by omega, by omega, by omega, by omega⟩) _ _ (h_al_ok ⟨rfl, trivial⟩ hlw40) hRw40)
        · clear hz18
          refine d_toL (g_inj ns) hlw6 hRq17 (fun lvw41 memw41 hlw41 hRw41 => ?_)
          show h_T g_P (g_Y ns) 57 20 [(0, .ref 63), (1, .int (Int32.ofInt 0))] [] sq17 _
          refine h_vret rfl rfl (d_retn hlv4 ?_)
          refine h_aload_n (pc' := 9) rfl rfl rfl ?_
          refine h_iconst (pc' := 10) (x := (Int32.ofInt 5)) rfl rfl rfl ?_
          refine h_call (sp := false) (pc' := 13) (M := [(0, .ref 63), (1, .int (Int32.ofInt 5))]) rfl rfl rfl rfl rfl rfl rfl rfl ?_
          refine h_aload_n (pc' := 1) rfl rfl rfl ?_
          refine h_getI (pc' := 4) (v := sq17 63 2) rfl rfl rfl rfl rfl rfl (fun z42 hz42 => ?_)
          have tz42 := tf_63_2 Isq17
          refine h_zne (tg := 30) (pc' := 7) rfl rfl rfl hz42 (fun c43 => ?_) (fun c43 => absurd c43 (by omega))
          clear hz42
          refine h_aload_n (pc' := 31) rfl rfl rfl ?_
          refine h_getI (pc' := 34) (v := sq17 63 2) rfl rfl rfl rfl rfl rfl (fun z44 hz44 => ?_)
          refine h_zne (tg := 60) (pc' := 37) rfl rfl rfl hz44 (fun c45 => ?_) (fun c45 => absurd c45 (by omega))
          clear hz44
          refine h_aload_n (pc' := 61) rfl rfl rfl ?_
          refine h_getR (pc' := 64) rfl rfl rfl rfl rfl ?_
          refine h_getI (pc' := 67) (v := sq17 64 5) rfl rfl rfl rfl rfl rfl (fun z46 hz46 => ?_)
          have tz46 := tf_64_5 Isq17
          refine h_istore_n (pc' := 68) (M := [(2, .int z46), (0, .ref 63), (1, .int (Int32.ofInt 5))]) rfl rfl rfl rfl ?_
          refine h_aload_n (pc' := 69) rfl rfl rfl ?_
          refine h_call (sp := false) (pc' := 72) (M := [(0, .ref 63)]) rfl rfl rfl rfl rfl rfl rfl rfl ?_
          refine h_aload_n (pc' := 1) rfl rfl rfl ?_
          refine h_getI (pc' := 4) (v := sq17 63 2) rfl rfl rfl rfl rfl rfl (fun z47 hz47 => ?_)
          refine h_zne (tg := 37) (pc' := 7) rfl rfl rfl hz47 (fun c48 => ?_) (fun c48 => absurd c48 (by omega))
          clear hz47
          refine h_vret rfl rfl (h_Kn ?_)
          refine h_iload_n (pc' := 73) rfl rfl rfl ?_
          refine h_iret rfl rfl (h_Kv ?_)
          refine h_istore_n (pc' := 14) (M := [(2, .int z46), (0, .ref 63), (1, .ref 72)]) rfl rfl rfl rfl ?_
          refine h_aload_n (pc' := 15) rfl rfl rfl ?_
          refine h_call (sp := false) (pc' := 18) (M := [(0, .ref 63)]) rfl rfl rfl rfl rfl rfl rfl rfl ?_
          refine h_aload_n (pc' := 1) rfl rfl rfl ?_
          refine h_getI (pc' := 4) (v := sq17 63 2) rfl rfl rfl rfl rfl rfl (fun z49 hz49 => ?_)
          refine h_zne (tg := 22) (pc' := 7) rfl rfl rfl hz49 (fun c50 => ?_) (fun c50 => absurd c50 (by omega))
          clear hz49
          refine h_iconst (pc' := 23) (x := (Int32.ofInt 0)) rfl rfl rfl ?_
          refine h_zret rfl rfl ci_0 (by omega) (h_Kv ?_)
          refine h_zeq (tg := 44) (pc' := 21) rfl rfl rfl ci_0 (fun c51 => ?_) (fun c51 => absurd c51 (by omega))
          refine h_aload_n (pc' := 45) rfl rfl rfl ?_
          refine h_iconst (pc' := 46) (x := (Int32.ofInt 5)) rfl rfl rfl ?_
          refine h_call (sp := false) (pc' := 49) (M := [(0, .ref 63), (1, .int (Int32.ofInt 5))]) rfl rfl rfl rfl rfl rfl rfl rfl ?_
          refine h_aload_n (pc' := 1) rfl rfl rfl ?_
          refine h_getI (pc' := 4) (v := sq17 63 2) rfl rfl rfl rfl rfl rfl (fun z52 hz52 => ?_)
          refine h_zne (tg := 30) (pc' := 7) rfl rfl rfl hz52 (fun c53 => ?_) (fun c53 => absurd c53 (by omega))
          clear hz52
          refine h_aload_n (pc' := 31) rfl rfl rfl ?_
          refine h_getI (pc' := 34) (v := sq17 63 2) rfl rfl rfl rfl rfl rfl (fun z54 hz54 => ?_)
          refine h_zne (tg := 60) (pc' := 37) rfl rfl rfl hz54 (fun c55 => ?_) (fun c55 => absurd c55 (by omega))
          clear hz54
          refine h_aload_n (pc' := 61) rfl rfl rfl ?_
          refine h_getR (pc' := 64) rfl rfl rfl rfl rfl ?_
          refine h_getI (pc' := 67) (v := sq17 64 5) rfl rfl rfl rfl rfl rfl (fun z56 hz56 => ?_)
          refine h_istore_n (pc' := 68) (M := [(2, .int z56), (0, .ref 63), (1, .int (Int32.ofInt 5))]) rfl rfl rfl rfl ?_
          refine h_aload_n (pc' := 69) rfl rfl rfl ?_
          refine h_call (sp := false) (pc' := 72) (M := [(0, .ref 63)]) rfl rfl rfl rfl rfl rfl rfl rfl ?_
          refine h_aload_n (pc' := 1) rfl rfl rfl ?_
          refine h_getI (pc' := 4) (v := sq17 63 2) rfl rfl rfl rfl rfl rfl (fun z57 hz57 => ?_)
          refine h_zne (tg := 37) (pc' := 7) rfl rfl rfl hz57 (fun c58 => ?_) (fun c58 => absurd c58 (by omega))
          clear hz57
          refine h_vret rfl rfl (h_Kn ?_)
          refine h_iload_n (pc' := 73) rfl rfl rfl ?_
          refine h_iret rfl rfl (h_Kv ?_)
          refine h_istore_n (pc' := 50) (M := [(3, .int z56), (2, .int z46), (0, .ref 63), (1, .ref 72)]) rfl rfl rfl rfl ?_
          refine h_aload_n (pc' := 51) rfl rfl rfl ?_
          refine h_getI (pc' := 54) (v := sq17 63 2) rfl rfl rfl rfl rfl rfl (fun z59 hz59 => ?_)
          refine h_zne (tg := 64) (pc' := 57) rfl rfl rfl hz59 (fun c60 => ?_) (fun c60 => absurd c60 (by omega))
          clear hz59
          refine h_vret rfl rfl (d_retn hlv1 ?_)
          clear hz46 hz56
          refine h_goto (pc' := 150) rfl rfl ?_
          refine h_aload_n (pc' := 151) rfl rfl rfl ?_
          refine h_getI (pc' := 154) (v := sq17 63 2) rfl rfl rfl rfl rfl rfl (fun z61 hz61 => ?_)
          refine h_zne (tg := 180) (pc' := 157) rfl rfl rfl hz61 (fun c62 => ?_) (fun c62 => absurd c62 (by omega))
          clear hz61
          exact h_wk [(0, .ref 63)] ⟨rfl, trivial⟩ (kx1 _ _ Isq17 Itq17 Fsq17 Ftq17 (by omega) (by omega) (by omega) (by omega) (by omega) (pcq17.elim (fun pcq17 => ⟨by omega, by omega, by omega, by omega⟩) (fun pcq17 => (pcq17.elim (fun pcq17 => (by exfalso; omega)) (fun pcq17 => (pcq17.elim (fun pcq17 => (by exfalso; omega)) (fun pcq17 => (pcq17.elim (fun pcq17 => (by exfalso; omega)) (fun pcq17 => (by exfalso; omega))))))))) _ _ (h_al_ok ⟨rfl, trivial⟩ hlw41) hRw41)
      · clear hz14
        refine h_iload_n (pc' := 115) rfl rfl rfl ?_
        refine h_bipush (pc' := 117) (x := (Int32.ofInt 7)) rfl rfl cb_7 ?_
        refine h_cne (tg := 124) (pc' := 120) rfl rfl rfl hy1 ci_7 (fun c63 => ?_) (fun c63 => absurd c63 (by omega))
        refine h_iconst (pc' := 125) (x := (Int32.ofInt 0)) rfl rfl rfl ?_
        refine h_put (pc' := 128) rfl rfl rfl rfl rfl rfl ci_0 (h_fb ci_0 (by omega)) (h_fgt (E := fun s => s 98 15 = σ2 98 15 ∧ s 98 16 = σ2 98 16 ∧ s 98 17 = σ2 98 17 ∧ s 98 18 = σ2 98 18 ∧ s 98 13 = σ2 98 13 ∧ s 98 14 = σ2 98 14 ∧ s 98 5 = σ2 98 5 ∧ s 98 6 = σ2 98 6 ∧ s 98 7 = 0 ∧ s 98 8 = σ2 98 8 ∧ s 98 9 = σ2 98 9 ∧ s 101 18 = σ2 101 18 ∧ s 101 25 = σ2 101 25 ∧ s 101 43 = σ2 101 43 ∧ s = h_up σ2 98 7 0) _ (if_98_7 hI2 (by omega)) (F2.up rfl) ⟨rfl, rfl, rfl, rfl, rfl, rfl, rfl, rfl, rfl, rfl, rfl, rfl, rfl, rfl, rfl⟩ (fun s64 Is64 Fs64 (es64 : s64 98 15 = σ2 98 15 ∧ s64 98 16 = σ2 98 16 ∧ s64 98 17 = σ2 98 17 ∧ s64 98 18 = σ2 98 18 ∧ s64 98 13 = σ2 98 13 ∧ s64 98 14 = σ2 98 14 ∧ s64 98 5 = σ2 98 5 ∧ s64 98 6 = σ2 98 6 ∧ s64 98 7 = 0 ∧ s64 98 8 = σ2 98 8 ∧ s64 98 9 = σ2 98 9 ∧ s64 101 18 = σ2 101 18 ∧ s64 101 25 = σ2 101 25 ∧ s64 101 43 = σ2 101 43 ∧ s64 = h_up σ2 98 7 0) => ?_))
        refine h_aload_n (pc' := 129) rfl rfl rfl ?_
        refine d_pcall (g_inj ns) (m1 := 54) (pc1' := 20) (M1 := [(0, .ref 63)]) (rest1 := []) (m2 := 148) (pc2' := 132) (M2 := [(0, .ref 98)]) (rest2 := []) ⟨false, _, _, _, _, _, _, rfl, rfl, rfl, rfl, rfl, rfl, rfl⟩ ⟨false, _, _, _, _, _, _, rfl, rfl, rfl, rfl, rfl, rfl, rfl⟩ hRw6 ?_
        refine pp_step hI1 Is64 (hTL.fr (F1.mono rfl) (Fs64.mono rfl)) (by omega) (by omega) (by omega) (by omega) (Or.inr ⟨by omega, by omega⟩) (fun sq65 tq65 Isq65 Itq65 Gsq65 Gtq65 yq65_0 yq65_1 yq65_2 yq65_3 yq65_4 pcq65 memq65 hRq65 => ?_)
        have Fsq65 := (Gsq65.mono (B := k_pl) rfl).tr F1
        have Ftq65 := (Gtq65.mono (B := k_pm) rfl).tr Fs64
        have esq65_6 : sq65 64 1 = σ1 64 1 := (Gsq65 64 1 rfl).trans rfl
        have esq65_7 : sq65 66 8 = σ1 66 8 := (Gsq65 66 8 rfl).trans rfl
        have esq65_8 : sq65 66 9 = σ1 66 9 := (Gsq65 66 9 rfl).trans rfl
        have esq65_9 : sq65 66 10 = σ1 66 10 := (Gsq65 66 10 rfl).trans rfl
        have esq65_10 : sq65 69 2 = σ1 69 2 := (Gsq65 69 2 rfl).trans rfl
        have esq65_11 : sq65 72 2 = σ1 72 2 := (Gsq65 72 2 rfl).trans rfl
        have esq65_12 : sq65 63 5 = σ1 63 5 := (Gsq65 63 5 rfl).trans rfl
        have etq65_6 : tq65 98 5 = σ2 98 5 := (Gtq65 98 5 rfl).trans es64.2.2.2.2.2.2.1
        have etq65_7 : tq65 98 6 = σ2 98 6 := (Gtq65 98 6 rfl).trans es64.2.2.2.2.2.2.2.1
        have etq65_8 : tq65 98 7 = 0 := (Gtq65 98 7 rfl).trans es64.2.2.2.2.2.2.2.2.1
        have etq65_9 : tq65 98 8 = σ2 98 8 := (Gtq65 98 8 rfl).trans es64.2.2.2.2.2.2.2.2.2.1
        have etq65_10 : tq65 98 9 = σ2 98 9 := (Gtq65 98 9 rfl).trans es64.2.2.2.2.2.2.2.2.2.2.1
        have etq65_11 : tq65 101 18 = σ2 101 18 := (Gtq65 101 18 rfl).trans es64.2.2.2.2.2.2.2.2.2.2.2.1
        have etq65_12 : tq65 101 25 = σ2 101 25 := (Gtq65 101 25 rfl).trans es64.2.2.2.2.2.2.2.2.2.2.2.2.1
        have etq65_13 : tq65 101 43 = σ2 101 43 := (Gtq65 101 43 rfl).trans es64.2.2.2.2.2.2.2.2.2.2.2.2.2.1
        show h_T g_P (g_Y ns) 154 132 [(0, .ref 98), (1, .int y1)] [] tq65 _
        refine h_aload_n (pc' := 133) rfl rfl rfl ?_
        refine h_getI (pc' := 136) (v := tq65 98 13) rfl rfl rfl rfl rfl rfl (fun z66 hz66 => ?_)
        have tz66 := tf_98_13 Itq65
        refine h_zle (tg := 140) (pc' := 139) rfl rfl rfl hz66 (fun c67 => ?_) (fun c67 => ?_)
        · clear hz66
          refine h_aload_n (pc' := 141) rfl rfl rfl ?_
          refine h_iload_n (pc' := 142) rfl rfl rfl ?_
          refine d_call (g_inj ns) (pc' := 145) (m := 153) (M := [(0, .ref 98), (1, .int y1)]) (rest := []) ⟨false, _, _, _, _, _, _, rfl, rfl, rfl, rfl, rfl, rfl, rfl⟩ (fun lv68 hlv68 => ?_)
          refine h_iload_n (pc' := 1) rfl rfl rfl ?_
          refine h_iconst (pc' := 2) (x := (Int32.ofInt 3)) rfl rfl rfl ?_
          refine h_cgt (tg := 61) (pc' := 5) rfl rfl rfl hy1 ci_3 (fun c69 => ?_) (fun c69 => absurd c69 (by omega))
          refine h_iload_n (pc' := 62) rfl rfl rfl ?_
          refine h_iconst (pc' := 63) (x := (Int32.ofInt 4)) rfl rfl rfl ?_
          refine h_cne (tg := 82) (pc' := 66) rfl rfl rfl hy1 ci_4 (fun c70 => ?_) (fun c70 => absurd c70 (by omega))
          refine h_iload_n (pc' := 83) rfl rfl rfl ?_
          refine h_iconst (pc' := 84) (x := (Int32.ofInt 5)) rfl rfl rfl ?_
          refine h_cne (tg := 103) (pc' := 87) rfl rfl rfl hy1 ci_5 (fun c71 => absurd c71 (by omega)) (fun c71 => ?_)
          refine h_aload_n (pc' := 88) rfl rfl rfl ?_
          refine h_bipush (pc' := 90) (x := (Int32.ofInt 19)) rfl rfl cb_19 ?_
          refine h_aload_n (pc' := 91) rfl rfl rfl ?_
          refine h_getR (pc' := 94) rfl rfl rfl rfl rfl ?_
          refine h_bipush (pc' := 96) (x := (Int32.ofInt 25)) rfl rfl cb_25 ?_
          refine h_iald (pc' := 97) (v := σ2 101 25) rfl rfl rfl ci_25 (by omega) (by omega) etq65_12 (fun z72 hz72 => ?_)
          refine d_call (g_inj ns) (pc' := 100) (m := 151) (M := [(0, .ref 98), (1, .int (Int32.ofInt 19)), (2, .int z72)]) (rest := []) ⟨false, _, _, _, _, _, _, rfl, rfl, rfl, rfl, rfl, rfl, rfl⟩ (fun lv73 hlv73 => ?_)
          refine d_toL (g_inj ns) hlw6 hRq65 (fun lvw74 memw74 hlw74 hRw74 => ?_)
          show h_T g_P (g_Y ns) 57 20 [(0, .ref 63), (1, .int (Int32.ofInt 0))] [] sq65 _
          refine h_vret rfl rfl (d_retn hlv4 ?_)
          refine h_wk [(0, .ref 63), (1, .ref 72)] ⟨rfl, rfl, trivial⟩ (ls_feu_b Isq65 Itq65 (hTL.fr (Fsq65.mono rfl) (Ftq65.mono rfl))  z72 _ hz72 (by omega) (by omega) (by omega) (by omega) (by omega) (by omega) (by omega) (by omega) (by omega) (by omega) (d_mk ((Gsq65 66 8 rfl)) ((Gsq65 66 9 rfl)) ((Gsq65 66 10 rfl)) ((Gsq65 69 2 rfl)) ((Gsq65 72 2 rfl)) ((Gsq65 63 5 rfl)) (fun j => (Gsq65 67 j rfl)) (fun j => (Gsq65 68 j rfl)) (fun j => (Gsq65 70 j rfl)) (fun j => (Gsq65 71 j rfl)) (fun j => (Gsq65 73 j rfl)) (fun j => (Gsq65 74 j rfl)) (fun j => (Gsq65 75 j rfl)) (fun j => (Gsq65 76 j rfl)) (fun j => (Gsq65 77 j rfl)) (fun j => (Gsq65 78 j rfl)) ((Gtq65 98 5 rfl).trans (h_upd es64.2.2.2.2.2.2.2.2.2.2.2.2.2.2 (by decide))) ((Gtq65 98 6 rfl).trans (h_upd es64.2.2.2.2.2.2.2.2.2.2.2.2.2.2 (by decide))) (by omega) ((Gtq65 98 8 rfl).trans (h_upd es64.2.2.2.2.2.2.2.2.2.2.2.2.2.2 (by decide))) ((Gtq65 98 9 rfl).trans (h_upd es64.2.2.2.2.2.2.2.2.2.2.2.2.2.2 (by decide))) (fun j => (Gtq65 101 j rfl).trans (h_upo es64.2.2.2.2.2.2.2.2.2.2.2.2.2.2 rfl j)) (pr10)) (by omega) (pcq65.elim (fun pcq65 => (by exfalso; omega)) (fun pcq65 => (pcq65.elim (fun pcq65 => (Or.inl ⟨by omega, by omega, by omega, by omega, by omega, by omega, by omega⟩)) (fun pcq65 => (pcq65.elim (fun pcq65 => (Or.inr (Or.inl ⟨by omega, by omega, by omega, by omega, by omega, by omega, by omega⟩))) (fun pcq65 => (pcq65.elim (fun pcq65 => (Or.inr (Or.inr (Or.inl ⟨by omega, by omega, by omega, by omega, by omega, by omega, by omega, by omega, by omega, by omega⟩)))) (fun pcq65 => (Or.inr (Or.inr (Or.inr ⟨by omega, by omega, by omega, by omega, by omega, by omega, by omega⟩))))))))))) (fun sq75 tq75 Isq75 Itq75 Gsq75 Gtq75   yq75_0 yq75_1 yq75_2 yq75_3 yq75_4 yq75_5 pcq75 lvq75 memq75 hlq75 hRq75 => ?_) _ _ (h_al_ok ⟨rfl, rfl, rfl, trivial⟩ hlw74) hRw74)
          · have Fsq75 := (Gsq75.mono (B := k_pl) rfl).tr Fsq65
            have Ftq75 := (Gtq75.mono (B := k_pm) rfl).tr Ftq65
            have Isq75 := Isq75
            have Itq75 := Itq75
            have Gsq75 := Gsq75
            have Gtq75 := Gtq75
            have esq75_6 : sq75 64 1 = σ1 64 1 := (Gsq75 64 1 rfl).trans esq65_6
            rcases pcq75 with pcq75 | pcq75
            · show h_T g_P (g_Y ns) 60 64 [(0, .ref 63)] [] sq75 _
              clear hz72
              refine h_vret rfl rfl (d_retn hlv1 ?_)
              refine h_goto (pc' := 150) rfl rfl ?_
              refine h_aload_n (pc' := 151) rfl rfl rfl ?_
              refine h_getI (pc' := 154) (v := sq75 63 2) rfl rfl rfl rfl rfl rfl (fun z76 hz76 => ?_)
              have tz76 := tf_63_2 Isq75
              refine h_zne (tg := 180) (pc' := 157) rfl rfl rfl hz76 (fun c77 => ?_) (fun c77 => absurd c77 (by omega))
              clear hz76
              refine d_toM (g_inj ns) hlq75 hRq75 (fun lvw78 memw78 hlw78 hRw78 => ?_)
              show h_T g_P (g_Y ns) 151 73 [(0, .ref 98)] [] tq75 _
              refine h_vret rfl rfl (d_retn hlv73 ?_)
              refine h_goto (pc' := 178) rfl rfl ?_
              refine h_vret rfl rfl (d_retn hlv68 ?_)
              refine h_aload_n (pc' := 146) rfl rfl rfl ?_
              refine h_getI (pc' := 149) (v := tq75 98 13) rfl rfl rfl rfl rfl rfl (fun z79 hz79 => ?_)
              have tz79 := tf_98_13 Itq75
              refine h_zne (tg := 165) (pc' := 152) rfl rfl rfl hz79 (fun c80 => ?_) (fun c80 => absurd c80 (by omega))
              clear hz79
              refine d_toL (g_inj ns) hlw78 hRw78 (fun lvw81 memw81 hlw81 hRw81 => ?_)
              show h_T g_P (g_Y ns) 56 180 [(0, .ref 63), (1, .int x1)] [] sq75 _
              exact h_wk [(0, .ref 63)] ⟨rfl, trivial⟩ (kx0 _ _ Isq75 Itq75 Fsq75 Ftq75 (by omega) (by omega) (by omega) (by omega) (by omega) (fun h => absurd h (by omega)) (Or.inl ⟨by omega, by omega, by omega, by omega⟩) _ _ (h_al_ok ⟨rfl, trivial⟩ hlw81) hRw81)
            · show h_T g_P (g_Y ns) 60 64 [(0, .ref 63)] [] sq75 _
              clear hz72
              refine h_vret rfl rfl (d_retn hlv1 ?_)
              refine h_goto (pc' := 150) rfl rfl ?_
              refine d_toM (g_inj ns) hlq75 hRq75 (fun lvw82 memw82 hlw82 hRw82 => ?_)
              show h_T g_P (g_Y ns) 151 73 [(0, .ref 98)] [] tq75 _
              refine h_vret rfl rfl (d_retn hlv73 ?_)
              refine h_goto (pc' := 178) rfl rfl ?_
              refine h_vret rfl rfl (d_retn hlv68 ?_)
              refine d_toL (g_inj ns) hlw82 hRw82 (fun lvw83 memw83 hlw83 hRw83 => ?_)
              show h_T g_P (g_Y ns) 56 150 [(0, .ref 63), (1, .int x1)] [] sq75 _
              refine h_wk [(0, .ref 63)] ⟨rfl, trivial⟩ (ls_sc Isq75 Itq75 (hTL.fr (Fsq75.mono rfl) (Ftq75.mono rfl))   (by omega) (by omega) (by omega) (by omega) (yq75_5) (pcq75.elim (fun pcq75 => (Or.inl ⟨by omega, by omega, by omega, by omega, by omega⟩)) (fun pcq75 => (pcq75.elim (fun pcq75 => (Or.inr (Or.inl ⟨by omega, by omega, by omega, by omega, by omega⟩))) (fun pcq75 => (pcq75.elim (fun pcq75 => (Or.inr (Or.inr (Or.inl ⟨by omega, by omega, by omega, by omega, by omega, by omega, by omega, by omega⟩)))) (fun pcq75 => (Or.inr (Or.inr (Or.inr ⟨by omega, by omega, by omega, by omega, by omega⟩))))))))) (fun sq84 tq84 Isq84 Itq84 Gsq84 Gtq84   yq84_0 yq84_1 yq84_2 yq84_3 yq84_4 yq84_5 pcq84 lvq84 memq84 hlq84 hRq84 => ?_) _ _ (h_al_ok ⟨rfl, trivial⟩ hlw83) hRw83)
              · have Fsq84 := (Gsq84.mono (B := k_pl) rfl).tr Fsq75
                have Ftq84 := (Gtq84.mono (B := k_pm) rfl).tr Ftq75
                have Isq84 := Isq84
                have Itq84 := Itq84
                have Gsq84 := Gsq84
                have Gtq84 := Gtq84
                have esq84_6 : sq84 64 1 = σ1 64 1 := (Gsq84 64 1 rfl).trans esq75_6
                rcases pcq84 with pcq84 | pcq84
                · show h_T g_P (g_Y ns) 56 180 [(0, .ref 63)] [] sq84 _
                  refine d_toM (g_inj ns) hlq84 hRq84 (fun lvw85 memw85 hlw85 hRw85 => ?_)
                  show h_T g_P (g_Y ns) 154 165 [(0, .ref 98)] [] tq84 _
                  refine d_toL (g_inj ns) hlw85 hRw85 (fun lvw86 memw86 hlw86 hRw86 => ?_)
                  show h_T g_P (g_Y ns) 56 180 [(0, .ref 63)] [] sq84 _
                  exact h_wk [(0, .ref 63)] ⟨rfl, trivial⟩ (kx0 _ _ Isq84 Itq84 Fsq84 Ftq84 (by omega) (by omega) (by omega) (by omega) (by omega) (fun h => absurd h (by omega)) (Or.inl ⟨by omega, by omega, by omega, by omega⟩) _ _ (h_al_ok ⟨rfl, trivial⟩ hlw86) hRw86)
                · show h_T g_P (g_Y ns) 56 180 [(0, .ref 63)] [] sq84 _
                  refine d_toM (g_inj ns) hlq84 hRq84 (fun lvw87 memw87 hlw87 hRw87 => ?_)
                  show h_T g_P (g_Y ns) 154 165 [(0, .ref 98)] [] tq84 _
                  refine d_toL (g_inj ns) hlw87 hRw87 (fun lvw88 memw88 hlw88 hRw88 => ?_)
                  show h_T g_P (g_Y ns) 56 180 [(0, .ref 63)] [] sq84 _
                  exact h_wk [(0, .ref 63)] ⟨rfl, trivial⟩ (kx0 _ _ Isq84 Itq84 Fsq84 Ftq84 (by omega) (by omega) (by omega) (by omega) (by omega) (yq84_5) (Or.inr ⟨by omega, by omega, by omega, by omega, by omega, by omega⟩) _ _ (h_al_ok ⟨rfl, trivial⟩ hlw88) hRw88)
        · clear hz66
          refine d_toL (g_inj ns) hlw6 hRq65 (fun lvw89 memw89 hlw89 hRw89 => ?_)
          show h_T g_P (g_Y ns) 57 20 [(0, .ref 63), (1, .int (Int32.ofInt 0))] [] sq65 _
          refine h_vret rfl rfl (d_retn hlv4 ?_)
          refine h_aload_n (pc' := 9) rfl rfl rfl ?_
          refine h_iconst (pc' := 10) (x := (Int32.ofInt 5)) rfl rfl rfl ?_
          refine h_call (sp := false) (pc' := 13) (M := [(0, .ref 63), (1, .int (Int32.ofInt 5))]) rfl rfl rfl rfl rfl rfl rfl rfl ?_
          refine h_aload_n (pc' := 1) rfl rfl rfl ?_
          refine h_getI (pc' := 4) (v := sq65 63 2) rfl rfl rfl rfl rfl rfl (fun z90 hz90 => ?_)
          have tz90 := tf_63_2 Isq65
          refine h_zne (tg := 30) (pc' := 7) rfl rfl rfl hz90 (fun c91 => ?_) (fun c91 => absurd c91 (by omega))
          clear hz90
          refine h_aload_n (pc' := 31) rfl rfl rfl ?_
          refine h_getI (pc' := 34) (v := sq65 63 2) rfl rfl rfl rfl rfl rfl (fun z92 hz92 => ?_)
          refine h_zne (tg := 60) (pc' := 37) rfl rfl rfl hz92 (fun c93 => ?_) (fun c93 => absurd c93 (by omega))
          clear hz92
          refine h_aload_n (pc' := 61) rfl rfl rfl ?_
          refine h_getR (pc' := 64) rfl rfl rfl rfl rfl ?_
          refine h_getI (pc' := 67) (v := sq65 64 5) rfl rfl rfl rfl rfl rfl (fun z94 hz94 => ?_)
          have tz94 := tf_64_5 Isq65
          refine h_istore_n (pc' := 68) (M := [(2, .int z94), (0, .ref 63), (1, .int (Int32.ofInt 5))]) rfl rfl rfl rfl ?_
          refine h_aload_n (pc' := 69) rfl rfl rfl ?_
          refine h_call (sp := false) (pc' := 72) (M := [(0, .ref 63)]) rfl rfl rfl rfl rfl rfl rfl rfl ?_
          refine h_aload_n (pc' := 1) rfl rfl rfl ?_
          refine h_getI (pc' := 4) (v := sq65 63 2) rfl rfl rfl rfl rfl rfl (fun z95 hz95 => ?_)
          refine h_zne (tg := 37) (pc' := 7) rfl rfl rfl hz95 (fun c96 => ?_) (fun c96 => absurd c96 (by omega))
          clear hz95
          refine h_vret rfl rfl (h_Kn ?_)
          refine h_iload_n (pc' := 73) rfl rfl rfl ?_
          refine h_iret rfl rfl (h_Kv ?_)
          refine h_istore_n (pc' := 14) (M := [(2, .int z94), (0, .ref 63), (1, .ref 72)]) rfl rfl rfl rfl ?_
          refine h_aload_n (pc' := 15) rfl rfl rfl ?_
          refine h_call (sp := false) (pc' := 18) (M := [(0, .ref 63)]) rfl rfl rfl rfl rfl rfl rfl rfl ?_
          refine h_aload_n (pc' := 1) rfl rfl rfl ?_
          refine h_getI (pc' := 4) (v := sq65 63 2) rfl rfl rfl rfl rfl rfl (fun z97 hz97 => ?_)
          refine h_zne (tg := 22) (pc' := 7) rfl rfl rfl hz97 (fun c98 => ?_) (fun c98 => absurd c98 (by omega))
          clear hz97
          refine h_iconst (pc' := 23) (x := (Int32.ofInt 0)) rfl rfl rfl ?_
          refine h_zret rfl rfl ci_0 (by omega) (h_Kv ?_)
          refine h_zeq (tg := 44) (pc' := 21) rfl rfl rfl ci_0 (fun c99 => ?_) (fun c99 => absurd c99 (by omega))
          refine h_aload_n (pc' := 45) rfl rfl rfl ?_
          refine h_iconst (pc' := 46) (x := (Int32.ofInt 5)) rfl rfl rfl ?_
          refine h_call (sp := false) (pc' := 49) (M := [(0, .ref 63), (1, .int (Int32.ofInt 5))]) rfl rfl rfl rfl rfl rfl rfl rfl ?_
          refine h_aload_n (pc' := 1) rfl rfl rfl ?_
          refine h_getI (pc' := 4) (v := sq65 63 2) rfl rfl rfl rfl rfl rfl (fun z100 hz100 => ?_)
          refine h_zne (tg := 30) (pc' := 7) rfl rfl rfl hz100 (fun c101 => ?_) (fun c101 => absurd c101 (by omega))
          clear hz100
          refine h_aload_n (pc' := 31) rfl rfl rfl ?_
          refine h_getI (pc' := 34) (v := sq65 63 2) rfl rfl rfl rfl rfl rfl (fun z102 hz102 => ?_)
          refine h_zne (tg := 60) (pc' := 37) rfl rfl rfl hz102 (fun c103 => ?_) (fun c103 => absurd c103 (by omega))
          clear hz102
          refine h_aload_n (pc' := 61) rfl rfl rfl ?_
          refine h_getR (pc' := 64) rfl rfl rfl rfl rfl ?_
          refine h_getI (pc' := 67) (v := sq65 64 5) rfl rfl rfl rfl rfl rfl (fun z104 hz104 => ?_)
          refine h_istore_n (pc' := 68) (M := [(2, .int z104), (0, .ref 63), (1, .int (Int32.ofInt 5))]) rfl rfl rfl rfl ?_
          refine h_aload_n (pc' := 69) rfl rfl rfl ?_
          refine h_call (sp := false) (pc' := 72) (M := [(0, .ref 63)]) rfl rfl rfl rfl rfl rfl rfl rfl ?_
          refine h_aload_n (pc' := 1) rfl rfl rfl ?_
          refine h_getI (pc' := 4) (v := sq65 63 2) rfl rfl rfl rfl rfl rfl (fun z105 hz105 => ?_)
          refine h_zne (tg := 37) (pc' := 7) rfl rfl rfl hz105 (fun c106 => ?_) (fun c106 => absurd c106 (by omega))
          clear hz105
          refine h_vret rfl rfl (h_Kn ?_)
          refine h_iload_n (pc' := 73) rfl rfl rfl ?_
          refine h_iret rfl rfl (h_Kv ?_)
          refine h_istore_n (pc' := 50) (M := [(3, .int z104), (2, .int z94), (0, .ref 63), (1, .ref 72)]) rfl rfl rfl rfl ?_
          refine h_aload_n (pc' := 51) rfl rfl rfl ?_
          refine h_getI (pc' := 54) (v := sq65 63 2) rfl rfl rfl rfl rfl rfl (fun z107 hz107 => ?_)
          refine h_zne (tg := 64) (pc' := 57) rfl rfl rfl hz107 (fun c108 => ?_) (fun c108 => absurd c108 (by omega))
          clear hz107
          refine h_vret rfl rfl (d_retn hlv1 ?_)
          clear hz104 hz94
          refine h_goto (pc' := 150) rfl rfl ?_
          refine h_aload_n (pc' := 151) rfl rfl rfl ?_
          refine h_getI (pc' := 154) (v := sq65 63 2) rfl rfl rfl rfl rfl rfl (fun z109 hz109 => ?_)
          refine h_zne (tg := 180) (pc' := 157) rfl rfl rfl hz109 (fun c110 => ?_) (fun c110 => absurd c110 (by omega))
          clear hz109
          exact h_wk [(0, .ref 63)] ⟨rfl, trivial⟩ (kx1 _ _ Isq65 Itq65 Fsq65 Ftq65 (by omega) (by omega) (by omega) (by omega) (by omega) (pcq65.elim (fun pcq65 => ⟨by omega, by omega, by omega, by omega⟩) (fun pcq65 => (pcq65.elim (fun pcq65 => (by exfalso; omega)) (fun pcq65 => (pcq65.elim (fun pcq65 => (by exfalso; omega)) (fun pcq65 => (pcq65.elim (fun pcq65 => (by exfalso; omega)) (fun pcq65 => (by exfalso; omega))))))))) _ _ (h_al_ok ⟨rfl, trivial⟩ hlw89) hRw89)
    · clear hz2
      refine h_iconst (pc' := 9) (x := (Int32.ofInt 1)) rfl rfl rfl ?_
      refine h_goto (pc' := 13) rfl rfl ?_
      refine h_zret rfl rfl ci_1 (by omega) (h_Kv ?_)
      refine d_call (g_inj ns) (pc' := 8) (m := 57) (M := [(0, .ref 63), (1, .int (Int32.ofInt 1))]) (rest := []) ⟨false, _, _, _, _, _, _, rfl, rfl, rfl, rfl, rfl, rfl, rfl⟩ (fun lv111 hlv111 => ?_)
      refine h_iload_n (pc' := 1) rfl rfl rfl ?_
      refine h_zeq (tg := 16) (pc' := 4) rfl rfl rfl ci_1 (fun c112 => absurd c112 (by omega)) (fun c112 => ?_)
      refine h_aload_n (pc' := 5) rfl rfl rfl ?_
      refine h_iconst (pc' := 6) (x := (Int32.ofInt 5)) rfl rfl rfl ?_
      refine h_aload_n (pc' := 7) rfl rfl rfl ?_
      refine h_getR (pc' := 10) rfl rfl rfl rfl rfl ?_
      refine h_getI (pc' := 13) (v := σ1 64 4) rfl rfl rfl rfl rfl rfl (fun z113 hz113 => ?_)
      have tz113 := tf_64_4 hI1
      refine h_call (sp := false) (pc' := 16) (M := [(0, .ref 63), (1, .int (Int32.ofInt 5)), (2, .int z113)]) rfl rfl rfl rfl rfl rfl rfl rfl ?_
      refine h_aload_n (pc' := 1) rfl rfl rfl ?_
      refine h_getI (pc' := 4) (v := σ1 63 2) rfl rfl rfl rfl rfl rfl (fun z114 hz114 => ?_)
      have tz114 := tf_63_2 hI1
      refine h_zne (tg := 17) (pc' := 7) rfl rfl rfl hz114 (fun c115 => absurd c115 (by omega)) (fun c115 => ?_)
      clear hz114
      refine h_aload_n (pc' := 8) rfl rfl rfl ?_
      refine h_iload_n (pc' := 9) rfl rfl rfl ?_
      refine h_put (pc' := 12) rfl rfl rfl rfl rfl rfl ci_5 rfl (h_fgt (E := fun s => s 64 2 = σ1 64 2 ∧ s 64 4 = σ1 64 4 ∧ s 64 3 = σ1 64 3 ∧ s 64 5 = σ1 64 5 ∧ s 63 2 = 5 ∧ s 63 3 = σ1 63 3 ∧ s 64 1 = σ1 64 1 ∧ s 66 8 = σ1 66 8 ∧ s 66 9 = σ1 66 9 ∧ s 66 10 = σ1 66 10 ∧ s 69 2 = σ1 69 2 ∧ s 72 2 = σ1 72 2 ∧ s 63 5 = σ1 63 5 ∧ s = h_up σ1 63 2 5) _ (if_63_2 hI1 (by omega)) (F1.up rfl) ⟨rfl, rfl, rfl, rfl, rfl, rfl, rfl, rfl, rfl, rfl, rfl, rfl, rfl, rfl⟩ (fun s116 Is116 Fs116 (es116 : s116 64 2 = σ1 64 2 ∧ s116 64 4 = σ1 64 4 ∧ s116 64 3 = σ1 64 3 ∧ s116 64 5 = σ1 64 5 ∧ s116 63 2 = 5 ∧ s116 63 3 = σ1 63 3 ∧ s116 64 1 = σ1 64 1 ∧ s116 66 8 = σ1 66 8 ∧ s116 66 9 = σ1 66 9 ∧ s116 66 10 = σ1 66 10 ∧ s116 69 2 = σ1 69 2 ∧ s116 72 2 = σ1 72 2 ∧ s116 63 5 = σ1 63 5 ∧ s116 = h_up σ1 63 2 5) => ?_))
      refine h_aload_n (pc' := 13) rfl rfl rfl ?_
      refine h_iload_n (pc' := 14) rfl rfl rfl ?_
      refine h_put (pc' := 17) rfl rfl rfl rfl rfl rfl hz113 rfl (h_fgt (E := fun s => s 64 2 = σ1 64 2 ∧ s 64 4 = σ1 64 4 ∧ s 64 3 = σ1 64 3 ∧ s 64 5 = σ1 64 5 ∧ s 63 2 = 5 ∧ s 63 3 = (σ1 64 4) ∧ s 64 1 = σ1 64 1 ∧ s 66 8 = σ1 66 8 ∧ s 66 9 = σ1 66 9 ∧ s 66 10 = σ1 66 10 ∧ s 69 2 = σ1 69 2 ∧ s 72 2 = σ1 72 2 ∧ s 63 5 = σ1 63 5 ∧ s = h_up s116 63 3 (σ1 64 4)) _ (if_63_3 Is116 (h_rgv hz113)) (Fs116.up rfl) ⟨es116.1, es116.2.1, es116.2.2.1, es116.2.2.2.1, es116.2.2.2.2.1, rfl, es116.2.2.2.2.2.2.1, es116.2.2.2.2.2.2.2.1, es116.2.2.2.2.2.2.2.2.1, es116.2.2.2.2.2.2.2.2.2.1, es116.2.2.2.2.2.2.2.2.2.2.1, es116.2.2.2.2.2.2.2.2.2.2.2.1, es116.2.2.2.2.2.2.2.2.2.2.2.2.1, rfl⟩ (fun s117 Is117 Fs117 (es117 : s117 64 2 = σ1 64 2 ∧ s117 64 4 = σ1 64 4 ∧ s117 64 3 = σ1 64 3 ∧ s117 64 5 = σ1 64 5 ∧ s117 63 2 = 5 ∧ s117 63 3 = (σ1 64 4) ∧ s117 64 1 = σ1 64 1 ∧ s117 66 8 = σ1 66 8 ∧ s117 66 9 = σ1 66 9 ∧ s117 66 10 = σ1 66 10 ∧ s117 69 2 = σ1 69 2 ∧ s117 72 2 = σ1 72 2 ∧ s117 63 5 = σ1 63 5 ∧ s117 = h_up s116 63 3 (σ1 64 4)) => ?_))
      refine h_vret rfl rfl (h_Kn ?_)
      refine h_aload_n (pc' := 17) rfl rfl rfl ?_
      refine h_call (sp := false) (pc' := 20) (M := [(0, .ref 63)]) rfl rfl rfl rfl rfl rfl rfl rfl ?_
      refine h_aload_n (pc' := 1) rfl rfl rfl ?_
      refine h_getI (pc' := 4) (v := 5) rfl rfl rfl rfl rfl es117.2.2.2.2.1 (fun z118 hz118 => ?_)
      refine h_zne (tg := 37) (pc' := 7) rfl rfl rfl hz118 (fun c119 => ?_) (fun c119 => absurd c119 (by omega))
      clear hz118
      refine h_vret rfl rfl (h_Kn ?_)
      refine h_vret rfl rfl (d_retn hlv111 ?_)
      refine h_aload_n (pc' := 9) rfl rfl rfl ?_
      refine h_iconst (pc' := 10) (x := (Int32.ofInt 5)) rfl rfl rfl ?_
      refine h_call (sp := false) (pc' := 13) (M := [(0, .ref 63), (1, .int (Int32.ofInt 5))]) rfl rfl rfl rfl rfl rfl rfl rfl ?_
      refine h_aload_n (pc' := 1) rfl rfl rfl ?_
      refine h_getI (pc' := 4) (v := 5) rfl rfl rfl rfl rfl es117.2.2.2.2.1 (fun z120 hz120 => ?_)
      refine h_zne (tg := 30) (pc' := 7) rfl rfl rfl hz120 (fun c121 => ?_) (fun c121 => absurd c121 (by omega))
      clear hz120
      refine h_aload_n (pc' := 31) rfl rfl rfl ?_
      refine h_getI (pc' := 34) (v := 5) rfl rfl rfl rfl rfl es117.2.2.2.2.1 (fun z122 hz122 => ?_)
      refine h_zne (tg := 60) (pc' := 37) rfl rfl rfl hz122 (fun c123 => ?_) (fun c123 => absurd c123 (by omega))
      clear hz122
      refine h_aload_n (pc' := 61) rfl rfl rfl ?_
      refine h_getR (pc' := 64) rfl rfl rfl rfl rfl ?_
      refine h_getI (pc' := 67) (v := σ1 64 5) rfl rfl rfl rfl rfl es117.2.2.2.1 (fun z124 hz124 => ?_)
      have tz124 := tf_64_5 hI1
      refine h_istore_n (pc' := 68) (M := [(2, .int z124), (0, .ref 63), (1, .int (Int32.ofInt 5))]) rfl rfl rfl rfl ?_
      refine h_aload_n (pc' := 69) rfl rfl rfl ?_
      refine h_call (sp := false) (pc' := 72) (M := [(0, .ref 63)]) rfl rfl rfl rfl rfl rfl rfl rfl ?_
      refine h_aload_n (pc' := 1) rfl rfl rfl ?_
      refine h_getI (pc' := 4) (v := 5) rfl rfl rfl rfl rfl es117.2.2.2.2.1 (fun z125 hz125 => ?_)
      refine h_zne (tg := 37) (pc' := 7) rfl rfl rfl hz125 (fun c126 => ?_) (fun c126 => absurd c126 (by omega))
      clear hz125
      refine h_vret rfl rfl (h_Kn ?_)
      refine h_iload_n (pc' := 73) rfl rfl rfl ?_
      refine h_iret rfl rfl (h_Kv ?_)
      refine h_istore_n (pc' := 14) (M := [(2, .int z124), (0, .ref 63), (1, .ref 72)]) rfl rfl rfl rfl ?_
      refine h_aload_n (pc' := 15) rfl rfl rfl ?_
      refine h_call (sp := false) (pc' := 18) (M := [(0, .ref 63)]) rfl rfl rfl rfl rfl rfl rfl rfl ?_
      refine h_aload_n (pc' := 1) rfl rfl rfl ?_
      refine h_getI (pc' := 4) (v := 5) rfl rfl rfl rfl rfl es117.2.2.2.2.1 (fun z127 hz127 => ?_)
      refine h_zne (tg := 22) (pc' := 7) rfl rfl rfl hz127 (fun c128 => ?_) (fun c128 => absurd c128 (by omega))
      clear hz127
      refine h_iconst (pc' := 23) (x := (Int32.ofInt 0)) rfl rfl rfl ?_
      refine h_zret rfl rfl ci_0 (by omega) (h_Kv ?_)
      refine h_zeq (tg := 44) (pc' := 21) rfl rfl rfl ci_0 (fun c129 => ?_) (fun c129 => absurd c129 (by omega))
      refine h_aload_n (pc' := 45) rfl rfl rfl ?_
      refine h_iconst (pc' := 46) (x := (Int32.ofInt 5)) rfl rfl rfl ?_
      refine h_call (sp := false) (pc' := 49) (M := [(0, .ref 63), (1, .int (Int32.ofInt 5))]) rfl rfl rfl rfl rfl rfl rfl rfl ?_
      refine h_aload_n (pc' := 1) rfl rfl rfl ?_
      refine h_getI (pc' := 4) (v := 5) rfl rfl rfl rfl rfl es117.2.2.2.2.1 (fun z130 hz130 => ?_)
      refine h_zne (tg := 30) (pc' := 7) rfl rfl rfl hz130 (fun c131 => ?_) (fun c131 => absurd c131 (by omega))
      clear hz130
      refine h_aload_n (pc' := 31) rfl rfl rfl ?_
      refine h_getI (pc' := 34) (v := 5) rfl rfl rfl rfl rfl es117.2.2.2.2.1 (fun z132 hz132 => ?_)
      refine h_zne (tg := 60) (pc' := 37) rfl rfl rfl hz132 (fun c133 => ?_) (fun c133 => absurd c133 (by omega))
      clear hz132
      refine h_aload_n (pc' := 61) rfl rfl rfl ?_
      refine h_getR (pc' := 64) rfl rfl rfl rfl rfl ?_
      refine h_getI (pc' := 67) (v := σ1 64 5) rfl rfl rfl rfl rfl es117.2.2.2.1 (fun z134 hz134 => ?_)
      refine h_istore_n (pc' := 68) (M := [(2, .int z134), (0, .ref 63), (1, .int (Int32.ofInt 5))]) rfl rfl rfl rfl ?_
      refine h_aload_n (pc' := 69) rfl rfl rfl ?_
      refine h_call (sp := false) (pc' := 72) (M := [(0, .ref 63)]) rfl rfl rfl rfl rfl rfl rfl rfl ?_
      refine h_aload_n (pc' := 1) rfl rfl rfl ?_
      refine h_getI (pc' := 4) (v := 5) rfl rfl rfl rfl rfl es117.2.2.2.2.1 (fun z135 hz135 => ?_)
      refine h_zne (tg := 37) (pc' := 7) rfl rfl rfl hz135 (fun c136 => ?_) (fun c136 => absurd c136 (by omega))
      clear hz135
      refine h_vret rfl rfl (h_Kn ?_)
      refine h_iload_n (pc' := 73) rfl rfl rfl ?_
      refine h_iret rfl rfl (h_Kv ?_)
      refine h_istore_n (pc' := 50) (M := [(3, .int z134), (2, .int z124), (0, .ref 63), (1, .ref 72)]) rfl rfl rfl rfl ?_
      refine h_aload_n (pc' := 51) rfl rfl rfl ?_
      refine h_getI (pc' := 54) (v := 5) rfl rfl rfl rfl rfl es117.2.2.2.2.1 (fun z137 hz137 => ?_)
      refine h_zne (tg := 64) (pc' := 57) rfl rfl rfl hz137 (fun c138 => ?_) (fun c138 => absurd c138 (by omega))
      clear hz137
      refine h_vret rfl rfl (d_retn hlv1 ?_)
      clear hz124 hz134
      refine h_goto (pc' := 150) rfl rfl ?_
      refine h_aload_n (pc' := 151) rfl rfl rfl ?_
      refine h_getI (pc' := 154) (v := 5) rfl rfl rfl rfl rfl es117.2.2.2.2.1 (fun z139 hz139 => ?_)
      refine h_zne (tg := 180) (pc' := 157) rfl rfl rfl hz139 (fun c140 => ?_) (fun c140 => absurd c140 (by omega))
      clear hz139
      refine d_toM (g_inj ns) hl2 hR2 (fun lvw141 memw141 hlw141 hRw141 => ?_)
      show h_T g_P (g_Y ns) 154 23 [(0, .ref 98), (1, .int y1)] [] σ2 _
      refine h_iload_n (pc' := 24) rfl rfl rfl ?_
      refine h_iconst (pc' := 25) (x := (Int32.ofInt 3)) rfl rfl rfl ?_
      refine h_cgt (tg := 37) (pc' := 28) rfl rfl rfl hy1 ci_3 (fun c142 => ?_) (fun c142 => absurd c142 (by omega))
      refine h_iload_n (pc' := 38) rfl rfl rfl ?_
      refine h_iconst (pc' := 39) (x := (Int32.ofInt 4)) rfl rfl rfl ?_
      refine h_cne (tg := 53) (pc' := 42) rfl rfl rfl hy1 ci_4 (fun c143 => ?_) (fun c143 => absurd c143 (by omega))
      refine h_iload_n (pc' := 54) rfl rfl rfl ?_
      refine h_iconst (pc' := 55) (x := (Int32.ofInt 5)) rfl rfl rfl ?_
      refine h_cne (tg := 69) (pc' := 58) rfl rfl rfl hy1 ci_5 (fun c144 => absurd c144 (by omega)) (fun c144 => ?_)
      refine h_aload_n (pc' := 59) rfl rfl rfl ?_
      refine h_getR (pc' := 62) rfl rfl rfl rfl rfl ?_
      refine h_bipush (pc' := 64) (x := (Int32.ofInt 25)) rfl rfl cb_25 ?_
      refine h_iald (pc' := 65) (v := σ2 101 25) rfl rfl rfl ci_25 (by omega) (by omega) rfl (fun z145 hz145 => ?_)
      have tz145 := ty_101_5 hI2 25 (by omega)
      refine h_iconst (pc' := 66) (x := (Int32.ofInt 3)) rfl rfl rfl ?_
      refine h_ceq (tg := 83) (pc' := 69) rfl rfl rfl hz145 ci_3 (fun c146 => ?_) (fun c146 => absurd c146 (by omega))
      clear hz145
      refine h_aload_n (pc' := 84) rfl rfl rfl ?_
      refine h_iconst (pc' := 85) (x := (Int32.ofInt 5)) rfl rfl rfl ?_
      refine h_call (sp := false) (pc' := 88) (M := [(0, .ref 98), (1, .int (Int32.ofInt 5))]) rfl rfl rfl rfl rfl rfl rfl rfl ?_
      refine h_aload_n (pc' := 1) rfl rfl rfl ?_
      refine h_getI (pc' := 4) (v := σ2 98 13) rfl rfl rfl rfl rfl rfl (fun z147 hz147 => ?_)
      have tz147 := tf_98_13 hI2
      refine h_zne (tg := 20) (pc' := 7) rfl rfl rfl hz147 (fun c148 => absurd c148 (by omega)) (fun c148 => ?_)
      clear hz147
      refine h_aload_n (pc' := 8) rfl rfl rfl ?_
      refine h_iload_n (pc' := 9) rfl rfl rfl ?_
      refine h_put (pc' := 12) rfl rfl rfl rfl rfl rfl ci_5 rfl (h_fgt (E := fun s => s 98 15 = σ2 98 15 ∧ s 98 16 = σ2 98 16 ∧ s 98 17 = σ2 98 17 ∧ s 98 18 = σ2 98 18 ∧ s 98 13 = 5 ∧ s 98 14 = σ2 98 14 ∧ s 98 5 = σ2 98 5 ∧ s 98 6 = σ2 98 6 ∧ s 98 7 = σ2 98 7 ∧ s 98 8 = σ2 98 8 ∧ s 98 9 = σ2 98 9 ∧ s 101 18 = σ2 101 18 ∧ s 101 25 = σ2 101 25 ∧ s 101 43 = σ2 101 43 ∧ s = h_up σ2 98 13 5) _ (if_98_13 hI2 (by omega)) (F2.up rfl) ⟨rfl, rfl, rfl, rfl, rfl, rfl, rfl, rfl, rfl, rfl, rfl, rfl, rfl, rfl, rfl⟩ (fun s149 Is149 Fs149 (es149 : s149 98 15 = σ2 98 15 ∧ s149 98 16 = σ2 98 16 ∧ s149 98 17 = σ2 98 17 ∧ s149 98 18 = σ2 98 18 ∧ s149 98 13 = 5 ∧ s149 98 14 = σ2 98 14 ∧ s149 98 5 = σ2 98 5 ∧ s149 98 6 = σ2 98 6 ∧ s149 98 7 = σ2 98 7 ∧ s149 98 8 = σ2 98 8 ∧ s149 98 9 = σ2 98 9 ∧ s149 101 18 = σ2 101 18 ∧ s149 101 25 = σ2 101 25 ∧ s149 101 43 = σ2 101 43 ∧ s149 = h_up σ2 98 13 5) => ?_))
      refine h_aload_n (pc' := 13) rfl rfl rfl ?_
      refine h_aload_n (pc' := 14) rfl rfl rfl ?_
      refine h_getI (pc' := 17) (v := σ2 98 16) rfl rfl rfl rfl rfl es149.2.1 (fun z150 hz150 => ?_)
      have tz150 := tf_98_16 hI2
      refine h_put (pc' := 20) rfl rfl rfl rfl rfl rfl hz150 rfl (h_fgt (E := fun s => s 98 15 = σ2 98 15 ∧ s 98 16 = σ2 98 16 ∧ s 98 17 = σ2 98 17 ∧ s 98 18 = σ2 98 18 ∧ s 98 13 = 5 ∧ s 98 14 = (σ2 98 16) ∧ s 98 5 = σ2 98 5 ∧ s 98 6 = σ2 98 6 ∧ s 98 7 = σ2 98 7 ∧ s 98 8 = σ2 98 8 ∧ s 98 9 = σ2 98 9 ∧ s 101 18 = σ2 101 18 ∧ s 101 25 = σ2 101 25 ∧ s 101 43 = σ2 101 43 ∧ s = h_up s149 98 14 (σ2 98 16)) _ (if_98_14 Is149 (h_rgv hz150)) (Fs149.up rfl) ⟨es149.1, es149.2.1, es149.2.2.1, es149.2.2.2.1, es149.2.2.2.2.1, rfl, es149.2.2.2.2.2.2.1, es149.2.2.2.2.2.2.2.1, es149.2.2.2.2.2.2.2.2.1, es149.2.2.2.2.2.2.2.2.2.1, es149.2.2.2.2.2.2.2.2.2.2.1, es149.2.2.2.2.2.2.2.2.2.2.2.1, es149.2.2.2.2.2.2.2.2.2.2.2.2.1, es149.2.2.2.2.2.2.2.2.2.2.2.2.2.1, rfl⟩ (fun s151 Is151 Fs151 (es151 : s151 98 15 = σ2 98 15 ∧ s151 98 16 = σ2 98 16 ∧ s151 98 17 = σ2 98 17 ∧ s151 98 18 = σ2 98 18 ∧ s151 98 13 = 5 ∧ s151 98 14 = (σ2 98 16) ∧ s151 98 5 = σ2 98 5 ∧ s151 98 6 = σ2 98 6 ∧ s151 98 7 = σ2 98 7 ∧ s151 98 8 = σ2 98 8 ∧ s151 98 9 = σ2 98 9 ∧ s151 101 18 = σ2 101 18 ∧ s151 101 25 = σ2 101 25 ∧ s151 101 43 = σ2 101 43 ∧ s151 = h_up s149 98 14 (σ2 98 16)) => ?_))
      refine h_vret rfl rfl (h_Kn ?_)
      refine h_iload_n (pc' := 89) rfl rfl rfl ?_
      refine h_bipush (pc' := 91) (x := (Int32.ofInt 7)) rfl rfl cb_7 ?_
      refine h_cne (tg := 106) (pc' := 94) rfl rfl rfl hy1 ci_7 (fun c152 => ?_) (fun c152 => absurd c152 (by omega))
      refine h_aload_n (pc' := 107) rfl rfl rfl ?_
      refine h_aload_n (pc' := 108) rfl rfl rfl ?_
      refine h_getI (pc' := 111) (v := σ2 98 7) rfl rfl rfl rfl rfl es151.2.2.2.2.2.2.2.2.1 (fun z153 hz153 => ?_)
      have tz153 := tf_98_7 hI2
      refine h_zne (tg := 120) (pc' := 114) rfl rfl rfl hz153 (fun c154 => ?_) (fun c154 => ?_)
      · clear hz153
        refine h_iconst (pc' := 121) (x := (Int32.ofInt 1)) rfl rfl rfl ?_
        refine h_goto (pc' := 125) rfl rfl ?_
        refine h_put (pc' := 128) rfl rfl rfl rfl rfl rfl ci_1 (h_fb ci_1 (by omega)) (h_fgt (E := fun s => s 98 15 = σ2 98 15 ∧ s 98 16 = σ2 98 16 ∧ s 98 17 = σ2 98 17 ∧ s 98 18 = σ2 98 18 ∧ s 98 13 = 5 ∧ s 98 14 = (σ2 98 16) ∧ s 98 5 = σ2 98 5 ∧ s 98 6 = σ2 98 6 ∧ s 98 7 = 1 ∧ s 98 8 = σ2 98 8 ∧ s 98 9 = σ2 98 9 ∧ s 101 18 = σ2 101 18 ∧ s 101 25 = σ2 101 25 ∧ s 101 43 = σ2 101 43 ∧ s = h_up s151 98 7 1) _ (if_98_7 Is151 (by omega)) (Fs151.up rfl) ⟨es151.1, es151.2.1, es151.2.2.1, es151.2.2.2.1, es151.2.2.2.2.1, es151.2.2.2.2.2.1, es151.2.2.2.2.2.2.1, es151.2.2.2.2.2.2.2.1, rfl, es151.2.2.2.2.2.2.2.2.2.1, es151.2.2.2.2.2.2.2.2.2.2.1, es151.2.2.2.2.2.2.2.2.2.2.2.1, es151.2.2.2.2.2.2.2.2.2.2.2.2.1, es151.2.2.2.2.2.2.2.2.2.2.2.2.2.1, rfl⟩ (fun s155 Is155 Fs155 (es155 : s155 98 15 = σ2 98 15 ∧ s155 98 16 = σ2 98 16 ∧ s155 98 17 = σ2 98 17 ∧ s155 98 18 = σ2 98 18 ∧ s155 98 13 = 5 ∧ s155 98 14 = (σ2 98 16) ∧ s155 98 5 = σ2 98 5 ∧ s155 98 6 = σ2 98 6 ∧ s155 98 7 = 1 ∧ s155 98 8 = σ2 98 8 ∧ s155 98 9 = σ2 98 9 ∧ s155 101 18 = σ2 101 18 ∧ s155 101 25 = σ2 101 25 ∧ s155 101 43 = σ2 101 43 ∧ s155 = h_up s151 98 7 1) => ?_))
        refine h_aload_n (pc' := 129) rfl rfl rfl ?_
        refine h_call (sp := false) (pc' := 132) (M := [(0, .ref 98)]) rfl rfl rfl rfl rfl rfl rfl rfl ?_
        refine h_aload_n (pc' := 1) rfl rfl rfl ?_
        refine h_getI (pc' := 4) (v := 5) rfl rfl rfl rfl rfl es155.2.2.2.2.1 (fun z156 hz156 => ?_)
        refine h_zle (tg := 8) (pc' := 7) rfl rfl rfl hz156 (fun c157 => absurd c157 (by omega)) (fun c157 => ?_)
        clear hz156
        refine h_vret rfl rfl (h_Kn ?_)
        refine h_aload_n (pc' := 133) rfl rfl rfl ?_
        refine h_getI (pc' := 136) (v := 5) rfl rfl rfl rfl rfl es155.2.2.2.2.1 (fun z158 hz158 => ?_)
        refine h_zle (tg := 140) (pc' := 139) rfl rfl rfl hz158 (fun c159 => absurd c159 (by omega)) (fun c159 => ?_)
        clear hz158
        refine d_toL (g_inj ns) hlw141 hRw141 (fun lvw160 memw160 hlw160 hRw160 => ?_)
        show h_T g_P (g_Y ns) 56 180 [(0, .ref 63), (1, .int x1)] [] s117 _
        exact h_wk [(0, .ref 63)] ⟨rfl, trivial⟩ (kx1 _ _ Is117 Is155 Fs117 Fs155 (by omega) (by omega) (by omega) (by omega) (by omega) ⟨by omega, by omega, by omega, by omega⟩ _ _ (h_al_ok ⟨rfl, trivial⟩ hlw160) hRw160)
      · clear hz153
        refine h_iload_n (pc' := 115) rfl rfl rfl ?_
        refine h_bipush (pc' := 117) (x := (Int32.ofInt 7)) rfl rfl cb_7 ?_
        refine h_cne (tg := 124) (pc' := 120) rfl rfl rfl hy1 ci_7 (fun c161 => ?_) (fun c161 => absurd c161 (by omega))
        refine h_iconst (pc' := 125) (x := (Int32.ofInt 0)) rfl rfl rfl ?_
        refine h_put (pc' := 128) rfl rfl rfl rfl rfl rfl ci_0 (h_fb ci_0 (by omega)) (h_fgt (E := fun s => s 98 15 = σ2 98 15 ∧ s 98 16 = σ2 98 16 ∧ s 98 17 = σ2 98 17 ∧ s 98 18 = σ2 98 18 ∧ s 98 13 = 5 ∧ s 98 14 = (σ2 98 16) ∧ s 98 5 = σ2 98 5 ∧ s 98 6 = σ2 98 6 ∧ s 98 7 = 0 ∧ s 98 8 = σ2 98 8 ∧ s 98 9 = σ2 98 9 ∧ s 101 18 = σ2 101 18 ∧ s 101 25 = σ2 101 25 ∧ s 101 43 = σ2 101 43 ∧ s = h_up s151 98 7 0) _ (if_98_7 Is151 (by omega)) (Fs151.up rfl) ⟨es151.1, es151.2.1, es151.2.2.1, es151.2.2.2.1, es151.2.2.2.2.1, es151.2.2.2.2.2.1, es151.2.2.2.2.2.2.1, es151.2.2.2.2.2.2.2.1, rfl, es151.2.2.2.2.2.2.2.2.2.1, es151.2.2.2.2.2.2.2.2.2.2.1, es151.2.2.2.2.2.2.2.2.2.2.2.1, es151.2.2.2.2.2.2.2.2.2.2.2.2.1, es151.2.2.2.2.2.2.2.2.2.2.2.2.2.1, rfl⟩ (fun s162 Is162 Fs162 (es162 : s162 98 15 = σ2 98 15 ∧ s162 98 16 = σ2 98 16 ∧ s162 98 17 = σ2 98 17 ∧ s162 98 18 = σ2 98 18 ∧ s162 98 13 = 5 ∧ s162 98 14 = (σ2 98 16) ∧ s162 98 5 = σ2 98 5 ∧ s162 98 6 = σ2 98 6 ∧ s162 98 7 = 0 ∧ s162 98 8 = σ2 98 8 ∧ s162 98 9 = σ2 98 9 ∧ s162 101 18 = σ2 101 18 ∧ s162 101 25 = σ2 101 25 ∧ s162 101 43 = σ2 101 43 ∧ s162 = h_up s151 98 7 0) => ?_))
        refine h_aload_n (pc' := 129) rfl rfl rfl ?_
        refine h_call (sp := false) (pc' := 132) (M := [(0, .ref 98)]) rfl rfl rfl rfl rfl rfl rfl rfl ?_
        refine h_aload_n (pc' := 1) rfl rfl rfl ?_
        refine h_getI (pc' := 4) (v := 5) rfl rfl rfl rfl rfl es162.2.2.2.2.1 (fun z163 hz163 => ?_)
        refine h_zle (tg := 8) (pc' := 7) rfl rfl rfl hz163 (fun c164 => absurd c164 (by omega)) (fun c164 => ?_)
        clear hz163
        refine h_vret rfl rfl (h_Kn ?_)
        refine h_aload_n (pc' := 133) rfl rfl rfl ?_
        refine h_getI (pc' := 136) (v := 5) rfl rfl rfl rfl rfl es162.2.2.2.2.1 (fun z165 hz165 => ?_)
        refine h_zle (tg := 140) (pc' := 139) rfl rfl rfl hz165 (fun c166 => absurd c166 (by omega)) (fun c166 => ?_)
        clear hz165
        refine d_toL (g_inj ns) hlw141 hRw141 (fun lvw167 memw167 hlw167 hRw167 => ?_)
        show h_T g_P (g_Y ns) 56 180 [(0, .ref 63), (1, .int x1)] [] s117 _
        exact h_wk [(0, .ref 63)] ⟨rfl, trivial⟩ (kx1 _ _ Is117 Is162 Fs117 Fs162 (by omega) (by omega) (by omega) (by omega) (by omega) ⟨by omega, by omega, by omega, by omega⟩ _ _ (h_al_ok ⟨rfl, trivial⟩ hlw167) hRw167)
