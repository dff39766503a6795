set_option maxHeartbeats 100000000 in
theorem ls_mar_c {ns : Nat} {σ1 σ2 : h_S} (hI1 : h_I σ1) (hI2 : h_I σ2) (hTL : d_tape σ1 σ2) (x2 : Int32) (a2 : Int) (hx2 : x2.toInt = a2) (y2 : Int32) (c2 : Int) (hy2 : y2.toInt = c2) (y3 : Int32) (c3 : Int) (hy3 : y3.toInt = c3) (H0 : Int) (pr0 : σ1 64 2 = σ2 98 15) (pr1 : σ1 64 4 = σ2 98 16) (pr2 : σ1 63 2 = σ2 98 13) (pr3 : σ1 66 8 = σ2 98 5) (pr4 : σ1 66 9 = σ2 98 6) (pr5 : σ1 66 10 = σ2 101 43) (pr6 : σ1 69 2 = σ2 101 18) (pr7 : σ1 72 2 = σ2 101 25) (pr8 : σ1 63 5 = σ2 98 7) (pr9 : σ1 64 2 ≤ σ1 64 1) (pr10 : d_RH σ1 σ2 H0) (pr11 : a2 = c3) (pr12 : 0 ≤ a2 ∧ a2 ≤ 5) (pr13 : c2 = σ2 101 18) (pr14 : H0 ≤ σ2 98 8) (pr15 : c3 ≤ σ2 98 8) (pr16 : σ2 98 8 = H0 ∨ σ2 98 8 = c3) (pc0 : ((σ1 63 2 = 0) ∧ (σ1 64 3 = 0) ∧ (0 ≤ σ1 69 2 ∧ σ1 69 2 ≤ 2) ∧ (σ2 98 13 = 0) ∧ (σ2 98 17 = 0) ∧ (0 ≤ σ2 101 18 ∧ σ2 101 18 ≤ 2) ∧ (σ1 64 4 = σ1 64 1)) ∨ ((σ1 63 2 = 0) ∧ (σ1 64 3 = 1) ∧ (0 ≤ σ1 69 2 ∧ σ1 69 2 ≤ 2) ∧ (σ2 98 13 = 0) ∧ (σ2 98 17 = 1) ∧ (0 ≤ σ2 101 18 ∧ σ2 101 18 ≤ 2) ∧ (σ1 64 4 < σ1 64 2)) ∨ ((σ1 63 2 = 0) ∧ (σ1 64 3 = 2) ∧ (0 ≤ σ1 69 2 ∧ σ1 69 2 ≤ 2) ∧ (σ2 98 13 = 0) ∧ (σ2 98 17 = 2) ∧ (0 ≤ σ2 101 18 ∧ σ2 101 18 ≤ 2) ∧ (0 ≤ σ1 64 5 ∧ σ1 64 5 ≤ 99) ∧ (0 ≤ σ2 98 18 ∧ σ2 98 18 ≤ 99) ∧ (σ1 64 5 = σ2 98 18) ∧ (σ1 64 4 < σ1 64 2)) ∨ ((σ1 63 2 = 0) ∧ (σ1 64 3 = 3) ∧ (0 ≤ σ1 69 2 ∧ σ1 69 2 ≤ 2) ∧ (σ2 98 13 = 0) ∧ (σ2 98 17 = 3) ∧ (0 ≤ σ2 101 18 ∧ σ2 101 18 ≤ 2) ∧ (σ1 64 4 < σ1 64 2))) {cs1 cs2 : List d_Fr} {Q : d_Q} (kx0 : ∀ (s t : h_S), h_I s → h_I t → h_F (k_in k_pl) s σ1 → h_F (k_in k_pm) t σ2 → (s 64 2 = t 98 15) → (s 64 4 = t 98 16) → (s 63 2 = t 98 13) → (s 64 2 ≤ s 64 1) → (σ1 64 2 ≤ s 64 2) → (d_ok s t) → (((1 ≤ s 63 2 ∧ s 63 2 ≤ 6) ∧ (1 ≤ t 98 13 ∧ t 98 13 ≤ 6) ∧ (s 63 2 = t 98 13) ∧ (s 63 3 = t 98 14)) ∨ ((s 63 2 = 0) ∧ (s 64 3 = 0) ∧ (t 98 13 = 0) ∧ (t 98 17 = 0) ∧ (s 64 4 = s 64 1) ∧ ((s 64 2 = σ1 64 2 ∧ s 64 3 = σ1 64 3) ∨ σ1 64 2 < s 64 2)) ∨ ((s 63 2 = 0) ∧ (s 64 3 = 1) ∧ (t 98 13 = 0) ∧ (t 98 17 = 1) ∧ (s 64 4 < s 64 2) ∧ ((s 64 2 = σ1 64 2 ∧ s 64 3 = σ1 64 3) ∨ σ1 64 2 < s 64 2)) ∨ ((s 63 2 = 0) ∧ (s 64 3 = 2) ∧ (t 98 13 = 0) ∧ (t 98 17 = 2) ∧ (0 ≤ s 64 5 ∧ s 64 5 ≤ 99) ∧ (0 ≤ t 98 18 ∧ t 98 18 ≤ 99) ∧ (s 64 5 = t 98 18) ∧ (s 64 4 < s 64 2) ∧ ((s 64 2 = σ1 64 2 ∧ s 64 3 = σ1 64 3) ∨ σ1 64 2 < s 64 2)) ∨ ((s 63 2 = 0) ∧ (s 64 3 = 3) ∧ (t 98 13 = 0) ∧ (t 98 17 = 3) ∧ (s 64 4 < s 64 2) ∧ ((s 64 2 = σ1 64 2 ∧ s 64 3 = σ1 64 3) ∨ σ1 64 2 < s 64 2))) → ∀ lv2 mem2, h_loc [(0, .ref 98)] lv2 → h_R (g_Y ns) t mem2 → h_T g_P (g_Y ns) 60 64 [(0, .ref 63)] [] s (d_cs g_P (g_Y ns) cs1 (d_L g_P (g_Y ns) (151, 73, lv2, []) cs2 mem2 Q))) : ∀ lv2 mem2, h_loc [(0, .ref 98), (1, .int (Int32.ofInt 12)), (2, .int y2), (3, .int y3)] lv2 → h_R (g_Y ns) σ2 mem2 → h_T g_P (g_Y ns) 60 14 [(0, .ref 63), (1, .ref 69), (2, .int x2)] [] σ1 (d_cs g_P (g_Y ns) cs1 (d_L g_P (g_Y ns) (151, 5, lv2, []) cs2 mem2 Q)) := by
  intro lv2 mem2 hl2 hR2
  have hT := hTL.1
  have hL := hTL.2
  have F1 : h_F (k_in k_pl) σ1 σ1 := h_F.rf
  have F2 : h_F (k_in k_pm) σ2 σ2 := h_F.rf
  have ge0 := tf_64_1 hI1
  have ge1 := tf_66_8 hI1
  have ge2 := tf_66_9 hI1
  have ge3 := tf_66_10 hI1
  have ge4 := tf_69_2 hI1
  have ge5 := tf_72_2 hI1
  have ge6 := tf_63_5 hI1
  have ge7 := tf_63_2 hI1
  have ge8 := tf_98_8 hI2
  have ge9 := tf_98_9 hI2
  have ge10 := tf_98_13 hI2
  rcases pc0 with pc0 | pc0 | pc0 | pc0
  · show h_T g_P (g_Y ns) 60 14 [(0, .ref 63), (1, .ref 69), (2, .int x2)] [] σ1 _
    refine h_aload_n (pc' := 15) rfl rfl rfl ?_
    refine h_call (sp := false) (pc' := 18) (M := [(0, .ref 63)]) rfl rfl rfl rfl rfl rfl rfl rfl ?_
    refine h_aload_n (pc' := 1) rfl rfl rfl ?_
    refine h_getI (pc' := 4) (v := σ1 63 2) rfl rfl rfl rfl rfl rfl (fun z1 hz1 => ?_)
    have tz1 := tf_63_2 hI1
    refine h_zne (tg := 22) (pc' := 7) rfl rfl rfl hz1 (fun c2 => absurd c2 (by omega)) (fun c2 => ?_)
    clear hz1
    refine h_aload_n (pc' := 8) rfl rfl rfl ?_
    refine h_getR (pc' := 11) rfl rfl rfl rfl rfl ?_
    refine h_getI (pc' := 14) (v := σ1 64 3) rfl rfl rfl rfl rfl rfl (fun z3 hz3 => ?_)
    have tz3 := tf_64_3 hI1
    refine h_iconst (pc' := 15) (x := (Int32.ofInt 2)) rfl rfl rfl ?_
    refine h_cne (tg := 22) (pc' := 18) rfl rfl rfl hz3 ci_2 (fun c4 => ?_) (fun c4 => absurd c4 (by omega))
    clear hz3
    refine h_iconst (pc' := 23) (x := (Int32.ofInt 0)) rfl rfl rfl ?_
    refine h_zret rfl rfl ci_0 (by omega) (h_Kv ?_)
    refine h_zeq (tg := 44) (pc' := 21) rfl rfl rfl ci_0 (fun c5 => ?_) (fun c5 => absurd c5 (by omega))
    refine h_aload_n (pc' := 45) rfl rfl rfl ?_
    refine h_iconst (pc' := 46) (x := (Int32.ofInt 5)) rfl rfl rfl ?_
    refine d_toM (g_inj ns) hl2 hR2 (fun lvw6 memw6 hlw6 hRw6 => ?_)
    show h_T g_P (g_Y ns) 151 5 [(0, .ref 98), (1, .int (Int32.ofInt 12)), (2, .int y2), (3, .int y3)] [] σ2 _
    refine h_aload_n (pc' := 6) rfl rfl rfl ?_
    refine h_getI (pc' := 9) (v := σ2 98 13) rfl rfl rfl rfl rfl rfl (fun z7 hz7 => ?_)
    have tz7 := tf_98_13 hI2
    refine h_zne (tg := 33) (pc' := 12) rfl rfl rfl hz7 (fun c8 => absurd c8 (by omega)) (fun c8 => ?_)
    clear hz7
    refine h_aload_n (pc' := 13) rfl rfl rfl ?_
    refine h_getI (pc' := 16) (v := σ2 98 17) rfl rfl rfl rfl rfl rfl (fun z9 hz9 => ?_)
    have tz9 := tf_98_17 hI2
    refine h_iconst (pc' := 17) (x := (Int32.ofInt 2)) rfl rfl rfl ?_
    refine h_cne (tg := 33) (pc' := 20) rfl rfl rfl hz9 ci_2 (fun c10 => ?_) (fun c10 => absurd c10 (by omega))
    clear hz9
    refine h_aload_n (pc' := 34) rfl rfl rfl ?_
    refine h_getR (pc' := 37) rfl rfl rfl rfl rfl ?_
    refine h_iload_n (pc' := 38) rfl rfl rfl ?_
    refine h_iconst (pc' := 39) (x := (Int32.ofInt 2)) rfl rfl rfl ?_
    refine h_iload_n (pc' := 40) rfl rfl rfl ?_
    refine h_imul (pc' := 41) rfl rfl ci_2 hy2 rfl (by omega) (by omega) (fun z11 hz11 => ?_)
    refine h_iadd (pc' := 42) rfl rfl ci_12 hz11 rfl (by omega) (by omega) (fun z12 hz12 => ?_)
    clear hz11
    refine h_iload_n (pc' := 43) rfl rfl rfl ?_
    refine h_iast (pc' := 44) rfl rfl rfl rfl hz12 (by omega) (by omega) hy3 (h_fgt (E := fun s => s 98 15 = σ2 98 15 ∧ s 98 16 = σ2 98 16 ∧ s 98 17 = σ2 98 17 ∧ s 98 18 = σ2 98 18 ∧ s 98 13 = σ2 98 13 ∧ s 98 14 = σ2 98 14 ∧ s 98 5 = σ2 98 5 ∧ s 98 6 = σ2 98 6 ∧ s 98 7 = σ2 98 7 ∧ s 98 8 = σ2 98 8 ∧ s 98 9 = σ2 98 9 ∧ s 101 18 = σ2 101 18 ∧ s 101 25 = σ2 101 25 ∧ s 101 43 = σ2 101 43 ∧ s = h_up σ2 101 (12 + (2 * c2)) c3) _ (ip_101_2 hI2 (by omega) (by omega)) (F2.up rfl) ⟨rfl, rfl, rfl, rfl, rfl, rfl, rfl, rfl, rfl, rfl, rfl, h_up_n2 (by omega) rfl, h_up_n2 (by omega) rfl, h_up_n2 (by omega) rfl, rfl⟩ (fun s13 Is13 Fs13 (es13 : s13 98 15 = σ2 98 15 ∧ s13 98 16 = σ2 98 16 ∧ s13 98 17 = σ2 98 17 ∧ s13 98 18 = σ2 98 18 ∧ s13 98 13 = σ2 98 13 ∧ s13 98 14 = σ2 98 14 ∧ s13 98 5 = σ2 98 5 ∧ s13 98 6 = σ2 98 6 ∧ s13 98 7 = σ2 98 7 ∧ s13 98 8 = σ2 98 8 ∧ s13 98 9 = σ2 98 9 ∧ s13 101 18 = σ2 101 18 ∧ s13 101 25 = σ2 101 25 ∧ s13 101 43 = σ2 101 43 ∧ s13 = h_up σ2 101 (12 + (2 * c2)) c3) => ?_))
    clear hz12
    refine h_aload_n (pc' := 45) rfl rfl rfl ?_
    refine h_getR (pc' := 48) rfl rfl rfl rfl rfl ?_
    refine h_iload_n (pc' := 49) rfl rfl rfl ?_
    refine h_iconst (pc' := 50) (x := (Int32.ofInt 2)) rfl rfl rfl ?_
    refine h_iload_n (pc' := 51) rfl rfl rfl ?_
    refine h_imul (pc' := 52) rfl rfl ci_2 hy2 rfl (by omega) (by omega) (fun z14 hz14 => ?_)
    refine h_iadd (pc' := 53) rfl rfl ci_12 hz14 rfl (by omega) (by omega) (fun z15 hz15 => ?_)
    clear hz14
    refine h_iconst (pc' := 54) (x := (Int32.ofInt 1)) rfl rfl rfl ?_
    refine h_iadd (pc' := 55) rfl rfl hz15 ci_1 rfl (by omega) (by omega) (fun z16 hz16 => ?_)
    clear hz15
    refine h_aload_n (pc' := 56) rfl rfl rfl ?_
    refine d_call (g_inj ns) (pc' := 59) (m := 150) (M := [(0, .ref 98)]) (rest := [.int z16, .ref 101]) ⟨false, _, _, _, _, _, _, rfl, rfl, rfl, rfl, rfl, rfl, rfl⟩ (fun lv17 hlv17 => ?_)
    refine h_aload_n (pc' := 1) rfl rfl rfl ?_
    refine h_iconst (pc' := 2) (x := (Int32.ofInt 0)) rfl rfl rfl ?_
    refine h_iconst (pc' := 3) (x := (Int32.ofInt 5)) rfl rfl rfl ?_
    refine d_pcall (g_inj ns) (m1 := 58) (pc1' := 49) (M1 := [(0, .ref 63), (1, .int (Int32.ofInt 5))]) (rest1 := []) (m2 := 149) (pc2' := 6) (M2 := [(0, .ref 98), (1, .int (Int32.ofInt 0)), (2, .int (Int32.ofInt 5))]) (rest2 := []) ⟨false, _, _, _, _, _, _, rfl, rfl, rfl, rfl, rfl, rfl, rfl⟩ ⟨false, _, _, _, _, _, _, rfl, rfl, rfl, rfl, rfl, rfl, rfl⟩ hRw6 ?_
    refine pp_num hI1 Is13 (hTL.fr (F1.mono rfl) (Fs13.mono rfl)) (Int32.ofInt 5) _ ci_5 (Int32.ofInt 5) _ ci_5 (by omega) (by omega) (by omega) (by omega) (by omega) (by omega) (Or.inr (Or.inl ⟨by omega, by omega, by omega, by omega, by omega⟩)) (fun rq18x bq18x hq18x rq18m bq18m hq18m sq18 tq18 Isq18 Itq18 Gsq18 Gtq18 yq18_0 yq18_1 yq18_2 yq18_3 yq18_4 pcq18 memq18 hRq18 => ?_)
    have Fsq18 := (Gsq18.mono (B := k_pl) rfl).tr F1
    have Ftq18 := (Gtq18.mono (B := k_pm) rfl).tr Fs13
    have esq18_6 : sq18 64 1 = σ1 64 1 := (Gsq18 64 1 rfl).trans rfl
    have esq18_7 : sq18 66 8 = σ1 66 8 := (Gsq18 66 8 rfl).trans rfl
    have esq18_8 : sq18 66 9 = σ1 66 9 := (Gsq18 66 9 rfl).trans rfl
    have esq18_9 : sq18 66 10 = σ1 66 10 := (Gsq18 66 10 rfl).trans rfl
    have esq18_10 : sq18 69 2 = σ1 69 2 := (Gsq18 69 2 rfl).trans rfl
    have esq18_11 : sq18 72 2 = σ1 72 2 := (Gsq18 72 2 rfl).trans rfl
    have esq18_12 : sq18 63 5 = σ1 63 5 := (Gsq18 63 5 rfl).trans rfl
    have etq18_6 : tq18 98 5 = σ2 98 5 := (Gtq18 98 5 rfl).trans es13.2.2.2.2.2.2.1
    have etq18_7 : tq18 98 6 = σ2 98 6 := (Gtq18 98 6 rfl).trans es13.2.2.2.2.2.2.2.1
    have etq18_8 : tq18 98 7 = σ2 98 7 := (Gtq18 98 7 rfl).trans es13.2.2.2.2.2.2.2.2.1
    have etq18_9 : tq18 98 8 = σ2 98 8 := (Gtq18 98 8 rfl).trans es13.2.2.2.2.2.2.2.2.2.1
    have etq18_10 : tq18 98 9 = σ2 98 9 := (Gtq18 98 9 rfl).trans es13.2.2.2.2.2.2.2.2.2.2.1
    have etq18_11 : tq18 101 18 = σ2 101 18 := (Gtq18 101 18 rfl).trans es13.2.2.2.2.2.2.2.2.2.2.2.1
    have etq18_12 : tq18 101 25 = σ2 101 25 := (Gtq18 101 25 rfl).trans es13.2.2.2.2.2.2.2.2.2.2.2.2.1
    have etq18_13 : tq18 101 43 = σ2 101 43 := (Gtq18 101 43 rfl).trans es13.2.2.2.2.2.2.2.2.2.2.2.2.2.1
    rcases pcq18 with pcq18 | pcq18
    · show h_T g_P (g_Y ns) 150 6 [(0, .ref 98)] [.int rq18m] tq18 _
      refine h_istore_n (pc' := 7) (M := [(1, .int rq18m), (0, .ref 98)]) rfl rfl rfl rfl ?_
      have oH19 : tq18 98 8 = σ2 98 8 := etq18_9
      have uH19 := tf_98_8 Itq18
      refine lm_hi _ Itq18 rq18m _ hq18m (by omega) (fun H19 hH19 => (h_fgt (E := fun s => s 98 15 = tq18 98 15 ∧ s 98 16 = tq18 98 16 ∧ s 98 17 = tq18 98 17 ∧ s 98 18 = tq18 98 18 ∧ s 98 13 = tq18 98 13 ∧ s 98 14 = tq18 98 14 ∧ s 98 5 = σ2 98 5 ∧ s 98 6 = σ2 98 6 ∧ s 98 7 = σ2 98 7 ∧ s 98 8 = H19 ∧ s 98 9 = σ2 98 9 ∧ s 101 18 = σ2 101 18 ∧ s 101 25 = σ2 101 25 ∧ s 101 43 = σ2 101 43 ∧ s = h_up tq18 98 8 H19) _ (if_98_8 Itq18 (by omega)) (Ftq18.up rfl) ⟨rfl, rfl, rfl, rfl, rfl, rfl, etq18_6, etq18_7, etq18_8, rfl, etq18_10, etq18_11, etq18_12, etq18_13, rfl⟩ (fun s20 Is20 Fs20 (es20 : s20 98 15 = tq18 98 15 ∧ s20 98 16 = tq18 98 16 ∧ s20 98 17 = tq18 98 17 ∧ s20 98 18 = tq18 98 18 ∧ s20 98 13 = tq18 98 13 ∧ s20 98 14 = tq18 98 14 ∧ s20 98 5 = σ2 98 5 ∧ s20 98 6 = σ2 98 6 ∧ s20 98 7 = σ2 98 7 ∧ s20 98 8 = H19 ∧ s20 98 9 = σ2 98 9 ∧ s20 101 18 = σ2 101 18 ∧ s20 101 25 = σ2 101 25 ∧ s20 101 43 = σ2 101 43 ∧ s20 = h_up tq18 98 8 H19) => ?_)))
      refine h_iload_n (pc' := 28) rfl rfl rfl ?_
      refine h_iret rfl rfl (d_ret hlv17 ?_)
      refine h_iast (pc' := 60) rfl rfl rfl rfl hz16 (by omega) (by omega) hq18m (h_fgt (E := fun s => s 98 15 = tq18 98 15 ∧ s 98 16 = tq18 98 16 ∧ s 98 17 = tq18 98 17 ∧ s 98 18 = tq18 98 18 ∧ s 98 13 = tq18 98 13 ∧ s 98 14 = tq18 98 14 ∧ s 98 5 = σ2 98 5 ∧ s 98 6 = σ2 98 6 ∧ s 98 7 = σ2 98 7 ∧ s 98 8 = H19 ∧ s 98 9 = σ2 98 9 ∧ s 101 18 = σ2 101 18 ∧ s 101 25 = σ2 101 25 ∧ s 101 43 = σ2 101 43 ∧ s = h_up s20 101 ((12 + (2 * c2)) + 1) bq18m) _ (ip_101_2 Is20 (by omega) (by omega)) (Fs20.up rfl) ⟨es20.1, es20.2.1, es20.2.2.1, es20.2.2.2.1, es20.2.2.2.2.1, es20.2.2.2.2.2.1, es20.2.2.2.2.2.2.1, es20.2.2.2.2.2.2.2.1, es20.2.2.2.2.2.2.2.2.1, es20.2.2.2.2.2.2.2.2.2.1, es20.2.2.2.2.2.2.2.2.2.2.1, h_up_n2 (by omega) es20.2.2.2.2.2.2.2.2.2.2.2.1, h_up_n2 (by omega) es20.2.2.2.2.2.2.2.2.2.2.2.2.1, h_up_n2 (by omega) es20.2.2.2.2.2.2.2.2.2.2.2.2.2.1, rfl⟩ (fun s21 Is21 Fs21 (es21 : s21 98 15 = tq18 98 15 ∧ s21 98 16 = tq18 98 16 ∧ s21 98 17 = tq18 98 17 ∧ s21 98 18 = tq18 98 18 ∧ s21 98 13 = tq18 98 13 ∧ s21 98 14 = tq18 98 14 ∧ s21 98 5 = σ2 98 5 ∧ s21 98 6 = σ2 98 6 ∧ s21 98 7 = σ2 98 7 ∧ s21 98 8 = H19 ∧ s21 98 9 = σ2 98 9 ∧ s21 101 18 = σ2 101 18 ∧ s21 101 25 = σ2 101 25 ∧ s21 101 43 = σ2 101 43 ∧ s21 = h_up s20 101 ((12 + (2 * c2)) + 1) bq18m) => ?_))
      clear hq18m hz16
      refine h_aload_n (pc' := 61) rfl rfl rfl ?_
      refine h_getR (pc' := 64) rfl rfl rfl rfl rfl ?_
      refine h_iload_n (pc' := 65) rfl rfl rfl ?_
      refine h_bipush (pc' := 67) (x := (Int32.ofInt 6)) rfl rfl cb_6 ?_
      refine h_iadd (pc' := 68) (c := 18) rfl rfl ci_12 ci_6 rfl (by omega) (by omega) (fun z22 hz22 => ?_)
      refine h_dup2 (pc' := 69) rfl rfl rfl ?_
      refine h_iald (pc' := 70) (v := σ2 101 18) rfl rfl rfl hz22 (by omega) (by omega) es21.2.2.2.2.2.2.2.2.2.2.2.1 (fun z23 hz23 => ?_)
      have tz23 := ty_101_3 hI2 18 (by omega)
      refine h_iconst (pc' := 71) (x := (Int32.ofInt 1)) rfl rfl rfl ?_
      refine h_iadd (pc' := 72) rfl rfl hz23 ci_1 rfl (by omega) (by omega) (fun z24 hz24 => ?_)
      clear hz23
      refine h_iast (pc' := 73) rfl rfl rfl rfl hz22 (by omega) (by omega) hz24 (h_fgt (E := fun s => s 98 15 = tq18 98 15 ∧ s 98 16 = tq18 98 16 ∧ s 98 17 = tq18 98 17 ∧ s 98 18 = tq18 98 18 ∧ s 98 13 = tq18 98 13 ∧ s 98 14 = tq18 98 14 ∧ s 98 5 = σ2 98 5 ∧ s 98 6 = σ2 98 6 ∧ s 98 7 = σ2 98 7 ∧ s 98 8 = H19 ∧ s 98 9 = σ2 98 9 ∧ s 101 18 = ((σ2 101 18) + 1) ∧ s 101 25 = σ2 101 25 ∧ s 101 43 = σ2 101 43 ∧ s = h_up s21 101 18 ((σ2 101 18) + 1)) _ (ip_101_3 Is21 (by omega) (by omega)) (Fs21.up rfl) ⟨es21.1, es21.2.1, es21.2.2.1, es21.2.2.2.1, es21.2.2.2.2.1, es21.2.2.2.2.2.1, es21.2.2.2.2.2.2.1, es21.2.2.2.2.2.2.2.1, es21.2.2.2.2.2.2.2.2.1, es21.2.2.2.2.2.2.2.2.2.1, es21.2.2.2.2.2.2.2.2.2.2.1, rfl, es21.2.2.2.2.2.2.2.2.2.2.2.2.1, es21.2.2.2.2.2.2.2.2.2.2.2.2.2.1, rfl⟩ (fun s25 Is25 Fs25 (es25 : s25 98 15 = tq18 98 15 ∧ s25 98 16 = tq18 98 16 ∧ s25 98 17 = tq18 98 17 ∧ s25 98 18 = tq18 98 18 ∧ s25 98 13 = tq18 98 13 ∧ s25 98 14 = tq18 98 14 ∧ s25 98 5 = σ2 98 5 ∧ s25 98 6 = σ2 98 6 ∧ s25 98 7 = σ2 98 7 ∧ s25 98 8 = H19 ∧ s25 98 9 = σ2 98 9 ∧ s25 101 18 = ((σ2 101 18) + 1) ∧ s25 101 25 = σ2 101 25 ∧ s25 101 43 = σ2 101 43 ∧ s25 = h_up s21 101 18 ((σ2 101 18) + 1)) => ?_))
      clear hz22
      refine d_toL (g_inj ns) hlw6 hRq18 (fun lvw26 memw26 hlw26 hRw26 => ?_)
      show h_T g_P (g_Y ns) 60 49 [(0, .ref 63), (1, .ref 69), (2, .int x2)] [.int rq18x] sq18 _
      refine h_istore_n (pc' := 50) (M := [(3, .int rq18x), (0, .ref 63), (1, .ref 69), (2, .int x2)]) rfl rfl rfl rfl ?_
      refine h_aload_n (pc' := 51) rfl rfl rfl ?_
      refine h_getI (pc' := 54) (v := sq18 63 2) rfl rfl rfl rfl rfl rfl (fun z27 hz27 => ?_)
      have tz27 := tf_63_2 Isq18
      refine h_zne (tg := 64) (pc' := 57) rfl rfl rfl hz27 (fun c28 => ?_) (fun c28 => absurd c28 (by omega))
      clear hz27
      exact h_wk [(0, .ref 63)] ⟨rfl, trivial⟩ (kx0 _ _ Isq18 Is25 Fsq18 Fs25 (by omega) (by omega) (by omega) (by omega) (by omega) (fun h => absurd h (by omega)) (Or.inl ⟨by omega, by omega, by omega, by omega⟩) _ _ (h_al_ok ⟨rfl, trivial⟩ hlw26) hRw26)
    · exfalso; omega
  · show h_T g_P (g_Y ns) 60 14 [(0, .ref 63), (1, .ref 69), (2, .int x2)] [] σ1 _
    refine h_aload_n (pc' := 15) rfl rfl rfl ?_
    refine h_call (sp := false) (pc' := 18) (M := [(0, .ref 63)]) rfl rfl rfl rfl rfl rfl rfl rfl ?_
    refine h_aload_n (pc' := 1) rfl rfl rfl ?_
    refine h_getI (pc' := 4) (v := σ1 63 2) rfl rfl rfl rfl rfl rfl (fun z29 hz29 => ?_)
    have tz29 := tf_63_2 hI1
    refine h_zne (tg := 22) (pc' := 7) rfl rfl rfl hz29 (fun c30 => absurd c30 (by omega)) (fun c30 => ?_)
    clear hz29
    refine h_aload_n (pc' := 8) rfl rfl rfl ?_
    refine h_getR (pc' := 11) rfl rfl rfl rfl rfl ?_
    refine h_getI (pc' := 14) (v := σ1 64 3) rfl rfl rfl rfl rfl rfl (fun z31 hz31 => ?_)
    have tz31 := tf_64_3 hI1
    refine h_iconst (pc' := 15) (x := (Int32.ofInt 2)) rfl rfl rfl ?_
    refine h_cne (tg := 22) (pc' := 18) rfl rfl rfl hz31 ci_2 (fun c32 => ?_) (fun c32 => absurd c32 (by omega))
    clear hz31
    refine h_iconst (pc' := 23) (x := (Int32.ofInt 0)) rfl rfl rfl ?_
    refine h_zret rfl rfl ci_0 (by omega) (h_Kv ?_)
    refine h_zeq (tg := 44) (pc' := 21) rfl rfl rfl ci_0 (fun c33 => ?_) (fun c33 => absurd c33 (by omega))
    refine h_aload_n (pc' := 45) rfl rfl rfl ?_
    refine h_iconst (pc' := 46) (x := (Int32.ofInt 5)) rfl rfl rfl ?_
    refine d_toM (g_inj ns) hl2 hR2 (fun lvw34 memw34 hlw34 hRw34 => ?_)
    show h_T g_P (g_Y ns) 151 5 [(0, .ref 98), (1, .int (Int32.ofInt 12)), (2, .int y2), (3, .int y3)] [] σ2 _
    refine h_aload_n (pc' := 6) rfl rfl rfl ?_
    refine h_getI (pc' := 9) (v := σ2 98 13) rfl rfl rfl rfl rfl rfl (fun z35 hz35 => ?_)
    have tz35 := tf_98_13 hI2
    refine h_zne (tg := 33) (pc' := 12) rfl rfl rfl hz35 (fun c36 => absurd c36 (by omega)) (fun c36 => ?_)
    clear hz35
    refine h_aload_n (pc' := 13) rfl rfl rfl ?_
    refine h_getI (pc' := 16) (v := σ2 98 17) rfl rfl rfl rfl rfl rfl (fun z37 hz37 => ?_)
    have tz37 := tf_98_17 hI2
    refine h_iconst (pc' := 17) (x := (Int32.ofInt 2)) rfl rfl rfl ?_
    refine h_cne (tg := 33) (pc' := 20) rfl rfl rfl hz37 ci_2 (fun c38 => ?_) (fun c38 => absurd c38 (by omega))
    clear hz37
    refine h_aload_n (pc' := 34) rfl rfl rfl ?_
    refine h_getR (pc' := 37) rfl rfl rfl rfl rfl ?_
    refine h_iload_n (pc' := 38) rfl rfl rfl ?_
    refine h_iconst (pc' := 39) (x := (Int32.ofInt 2)) rfl rfl rfl ?_
    refine h_iload_n (pc' := 40) rfl rfl rfl ?_
    refine h_imul (pc' := 41) rfl rfl ci_2 hy2 rfl (by omega) (by omega) (fun z39 hz39 => ?_)
    refine h_iadd (pc' := 42) rfl rfl ci_12 hz39 rfl (by omega) (by omega) (fun z40 hz40 => ?_)
    clear hz39
    refine h_iload_n (pc' := 43) rfl rfl rfl ?_
    refine h_iast (pc' := 44) rfl rfl rfl rfl hz40 (by omega) (by omega) hy3 (h_fgt (E := fun s => s 98 15 = σ2 98 15 ∧ s 98 16 = σ2 98 16 ∧ s 98 17 = σ2 98 17 ∧ s 98 18 = σ2 98 18 ∧ s 98 13 = σ2 98 13 ∧ s 98 14 = σ2 98 14 ∧ s 98 5 = σ2 98 5 ∧ s 98 6 = σ2 98 6 ∧ s 98 7 = σ2 98 7 ∧ s 98 8 = σ2 98 8 ∧ s 98 9 = σ2 98 9 ∧ s 101 18 = σ2 101 18 ∧ s 101 25 = σ2 101 25 ∧ s 101 43 = σ2 101 43 ∧ s = h_up σ2 101 (12 + (2 * c2)) c3) _ (ip_101_2 hI2 (by omega) (by omega)) (F2.up rfl) ⟨rfl, rfl, rfl, rfl, rfl, rfl, rfl, rfl, rfl, rfl, rfl, h_up_n2 (by omega) rfl, h_up_n2 (by omega) rfl, h_up_n2 (by omega) rfl, rfl⟩ (fun s41 Is41 Fs41 (es41 : s41 98 15 = σ2 98 15 ∧ s41 98 16 = σ2 98 16 ∧ s41 98 17 = σ2 98 17 ∧ s41 98 18 = σ2 98 18 ∧ s41 98 13 = σ2 98 13 ∧ s41 98 14 = σ2 98 14 ∧ s41 98 5 = σ2 98 5 ∧ s41 98 6 = σ2 98 6 ∧ s41 98 7 = σ2 98 7 ∧ s41 98 8 = σ2 98 8 ∧ s41 98 9 = σ2 98 9 ∧ s41 101 18 = σ2 101 18 ∧ s41 101 25 = σ2 101 25 ∧ s41 101 43 = σ2 101 43 ∧ s41 = h_up σ2 101 (12 + (2 * c2)) c3) => ?_))
    clear hz40
    refine h_aload_n (pc' := 45) rfl rfl rfl ?_
    refine h_getR (pc' := 48) rfl rfl rfl rfl rfl ?_
    refine h_iload_n (pc' := 49) rfl rfl rfl ?_
    refine h_iconst (pc' := 50) (x := (Int32.ofInt 2)) rfl rfl rfl ?_
    refine h_iload_n (pc' := 51) rfl rfl rfl ?_
    refine h_imul (pc' := 52) rfl rfl ci_2 hy2 rfl (by omega) (by omega) (fun z42 hz42 => ?_)
    refine h_iadd (pc' := 53) rfl rfl ci_12 hz42 rfl (by omega) (by omega) (fun z43 hz43 => ?_)
    clear hz42
    refine h_iconst (pc' := 54) (x := (Int32.ofInt 1)) rfl rfl rfl ?_
    refine h_iadd (pc' := 55) rfl rfl hz43 ci_1 rfl (by omega) (by omega) (fun z44 hz44 => ?_)
    clear hz43
    refine h_aload_n (pc' := 56) rfl rfl rfl ?_
    refine d_call (g_inj ns) (pc' := 59) (m := 150) (M := [(0, .ref 98)]) (rest := [.int z44, .ref 101]) ⟨false, _, _, _, _, _, _, rfl, rfl, rfl, rfl, rfl, rfl, rfl⟩ (fun lv45 hlv45 => ?_)
    refine h_aload_n (pc' := 1) rfl rfl rfl ?_
    refine h_iconst (pc' := 2) (x := (Int32.ofInt 0)) rfl rfl rfl ?_
    refine h_iconst (pc' := 3) (x := (Int32.ofInt 5)) rfl rfl rfl ?_
    refine d_pcall (g_inj ns) (m1 := 58) (pc1' := 49) (M1 := [(0, .ref 63), (1, .int (Int32.ofInt 5))]) (rest1 := []) (m2 := 149) (pc2' := 6) (M2 := [(0, .ref 98), (1, .int (Int32.ofInt 0)), (2, .int (Int32.ofInt 5))]) (rest2 := []) ⟨false, _, _, _, _, _, _, rfl, rfl, rfl, rfl, rfl, rfl, rfl⟩ ⟨false, _, _, _, _, _, _, rfl, rfl, rfl, rfl, rfl, rfl, rfl⟩ hRw34 ?_
    refine pp_num hI1 Is41 (hTL.fr (F1.mono rfl) (Fs41.mono rfl)) (Int32.ofInt 5) _ ci_5 (Int32.ofInt 5) _ ci_5 (by omega) (by omega) (by omega) (by omega) (by omega) (by omega) (Or.inr (Or.inr (Or.inl ⟨by omega, by omega, by omega, by omega, by omega⟩))) (fun rq46x bq46x hq46x rq46m bq46m hq46m sq46 tq46 Isq46 Itq46 Gsq46 Gtq46 yq46_0 yq46_1 yq46_2 yq46_3 yq46_4 pcq46 memq46 hRq46 => ?_)
    have Fsq46 := (Gsq46.mono (B := k_pl) rfl).tr F1
    have Ftq46 := (Gtq46.mono (B := k_pm) rfl).tr Fs41
    have esq46_6 : sq46 64 1 = σ1 64 1 := (Gsq46 64 1 rfl).trans rfl
    have esq46_7 : sq46 66 8 = σ1 66 8 := (Gsq46 66 8 rfl).trans rfl
    have esq46_8 : sq46 66 9 = σ1 66 9 := (Gsq46 66 9 rfl).trans rfl
    have esq46_9 : sq46 66 10 = σ1 66 10 := (Gsq46 66 10 rfl).trans rfl
    have esq46_10 : sq46 69 2 = σ1 69 2 := (Gsq46 69 2 rfl).trans rfl
    have esq46_11 : sq46 72 2 = σ1 72 2 := (Gsq46 72 2 rfl).trans rfl
    have esq46_12 : sq46 63 5 = σ1 63 5 := (Gsq46 63 5 rfl).trans rfl
    have etq46_6 : tq46 98 5 = σ2 98 5 := (Gtq46 98 5 rfl).trans es41.2.2.2.2.2.2.1
    have etq46_7 : tq46 98 6 = σ2 98 6 := (Gtq46 98 6 rfl).trans es41.2.2.2.2.2.2.2.1
    have etq46_8 : tq46 98 7 = σ2 98 7 := (Gtq46 98 7 rfl).trans es41.2.2.2.2.2.2.2.2.1
    have etq46_9 : tq46 98 8 = σ2 98 8 := (Gtq46 98 8 rfl).trans es41.2.2.2.2.2.2.2.2.2.1
    have etq46_10 : tq46 98 9 = σ2 98 9 := (Gtq46 98 9 rfl).trans es41.2.2.2.2.2.2.2.2.2.2.1
    have etq46_11 : tq46 101 18 = σ2 101 18 := (Gtq46 101 18 rfl).trans es41.2.2.2.2.2.2.2.2.2.2.2.1
    have etq46_12 : tq46 101 25 = σ2 101 25 := (Gtq46 101 25 rfl).trans es41.2.2.2.2.2.2.2.2.2.2.2.2.1
    have etq46_13 : tq46 101 43 = σ2 101 43 := (Gtq46 101 43 rfl).trans es41.2.2.2.2.2.2.2.2.2.2.2.2.2.1
    rcases pcq46 with pcq46 | pcq46
    · show h_T g_P (g_Y ns) 150 6 [(0, .ref 98)] [.int rq46m] tq46 _
      refine h_istore_n (pc' := 7) (M := [(1, .int rq46m), (0, .ref 98)]) rfl rfl rfl rfl ?_
      have oH47 : tq46 98 8 = σ2 98 8 := etq46_9
      have uH47 := tf_98_8 Itq46
      refine lm_hi _ Itq46 rq46m _ hq46m (by omega) (fun H47 hH47 => (h_fgt (E := fun s => s 98 15 = tq46 98 15 ∧ s 98 16 = tq46 98 16 ∧ s 98 17 = tq46 98 17 ∧ s 98 18 = tq46 98 18 ∧ s 98 13 = tq46 98 13 ∧ s 98 14 = tq46 98 14 ∧ s 98 5 = σ2 98 5 ∧ s 98 6 = σ2 98 6 ∧ s 98 7 = σ2 98 7 ∧ s 98 8 = H47 ∧ s 98 9 = σ2 98 9 ∧ s 101 18 = σ2 101 18 ∧ s 101 25 = σ2 101 25 ∧ s 101 43 = σ2 101 43 ∧ s = h_up tq46 98 8 H47) _ (if_98_8 Itq46 (by omega)) (Ftq46.up rfl) ⟨rfl, rfl, rfl, rfl, rfl, rfl, etq46_6, etq46_7, etq46_8, rfl, etq46_10, etq46_11, etq46_12, etq46_13, rfl⟩ (fun s48 Is48 Fs48 (es48 : s48 98 15 = tq46 98 15 ∧ s48 98 16 = tq46 98 16 ∧ s48 98 17 = tq46 98 17 ∧ s48 98 18 = tq46 98 18 ∧ s48 98 13 = tq46 98 13 ∧ s48 98 14 = tq46 98 14 ∧ s48 98 5 = σ2 98 5 ∧ s48 98 6 = σ2 98 6 ∧ s48 98 7 = σ2 98 7 ∧ s48 98 8 = H47 ∧ s48 98 9 = σ2 98 9 ∧ s48 101 18 = σ2 101 18 ∧ s48 101 25 = σ2 101 25 ∧ s48 101 43 = σ2 101 43 ∧ s48 = h_up tq46 98 8 H47) => ?_)))
      refine h_iload_n (pc' := 28) rfl rfl rfl ?_
      refine h_iret rfl rfl (d_ret hlv45 ?_)
      refine h_iast (pc' := 60) rfl rfl rfl rfl hz44 (by omega) (by omega) hq46m (h_fgt (E := fun s => s 98 15 = tq46 98 15 ∧ s 98 16 = tq46 98 16 ∧ s 98 17 = tq46 98 17 ∧ s 98 18 = tq46 98 18 ∧ s 98 13 = tq46 98 13 ∧ s 98 14 = tq46 98 14 ∧ s 98 5 = σ2 98 5 ∧ s 98 6 = σ2 98 6 ∧ s 98 7 = σ2 98 7 ∧ s 98 8 = H47 ∧ s 98 9 = σ2 98 9 ∧ s 101 18 = σ2 101 18 ∧ s 101 25 = σ2 101 25 ∧ s 101 43 = σ2 101 43 ∧ s = h_up s48 101 ((12 + (2 * c2)) + 1) bq46m) _ (ip_101_2 Is48 (by omega) (by omega)) (Fs48.up rfl) ⟨es48.1, es48.2.1, es48.2.2.1, es48.2.2.2.1, es48.2.2.2.2.1, es48.2.2.2.2.2.1, es48.2.2.2.2.2.2.1, es48.2.2.2.2.2.2.2.1, es48.2.2.2.2.2.2.2.2.1, es48.2.2.2.2.2.2.2.2.2.1, es48.2.2.2.2.2.2.2.2.2.2.1, h_up_n2 (by omega) es48.2.2.2.2.2.2.2.2.2.2.2.1, h_up_n2 (by omega) es48.2.2.2.2.2.2.2.2.2.2.2.2.1, h_up_n2 (by omega) es48.2.2.2.2.2.2.2.2.2.2.2.2.2.1, rfl⟩ (fun s49 Is49 Fs49 (es49 : s49 98 15 = tq46 98 15 ∧ s49 98 16 = tq46 98 16 ∧ s49 98 17 = tq46 98 17 ∧ s49 98 18 = tq46 98 18 ∧ s49 98 13 = tq46 98 13 ∧ s49 98 14 = tq46 98 14 ∧ s49 98 5 = σ2 98 5 ∧ s49 98 6 = σ2 98 6 ∧ s49 98 7 = σ2 98 7 ∧ s49 98 8 = H47 ∧ s49 98 9 = σ2 98 9 ∧ s49 101 18 = σ2 101 18 ∧ s49 101 25 = σ2 101 25 ∧ s49 101 43 = σ2 101 43 ∧ s49 = h_up s48 101 ((12 + (2 * c2)) + 1) bq46m) => ?_))
      clear hq46m hz44
      refine h_aload_n (pc' := 61) rfl rfl rfl ?_
      refine h_getR (pc' := 64) rfl rfl rfl rfl rfl ?_
      refine h_iload_n (pc' := 65) rfl rfl rfl ?_
      refine h_bipush (pc' := 67) (x := (Int32.ofInt 6)) rfl rfl cb_6 ?_
      refine h_iadd (pc' := 68) (c := 18) rfl rfl ci_12 ci_6 rfl (by omega) (by omega) (fun z50 hz50 => ?_)
      refine h_dup2 (pc' := 69) rfl rfl rfl ?_
      refine h_iald (pc' := 70) (v := σ2 101 18) rfl rfl rfl hz50 (by omega) (by omega) es49.2.2.2.2.2.2.2.2.2.2.2.1 (fun z51 hz51 => ?_)
      have tz51 := ty_101_3 hI2 18 (by omega)
      refine h_iconst (pc' := 71) (x := (Int32.ofInt 1)) rfl rfl rfl ?_
      refine h_iadd (pc' := 72) rfl rfl hz51 ci_1 rfl (by omega) (by omega) (fun z52 hz52 => ?_)
      clear hz51
      refine h_iast (pc' := 73) rfl rfl rfl rfl hz50 (by omega) (by omega) hz52 (h_fgt (E := fun s => s 98 15 = tq46 98 15 ∧ s 98 16 = tq46 98 16 ∧ s 98 17 = tq46 98 17 ∧ s 98 18 = tq46 98 18 ∧ s 98 13 = tq46 98 13 ∧ s 98 14 = tq46 98 14 ∧ s 98 5 = σ2 98 5 ∧ s 98 6 = σ2 98 6 ∧ s 98 7 = σ2 98 7 ∧ s 98 8 = H47 ∧ s 98 9 = σ2 98 9 ∧ s 101 18 = ((σ2 101 18) + 1) ∧ s 101 25 = σ2 101 25 ∧ s 101 43 = σ2 101 43 ∧ s = h_up s49 101 18 ((σ2 101 18) + 1)) _ (ip_101_3 Is49 (by omega) (by omega)) (Fs49.up rfl) ⟨es49.1, es49.2.1, es49.2.2.1, es49.2.2.2.1, es49.2.2.2.2.1, es49.2.2.2.2.2.1, es49.2.2.2.2.2.2.1, es49.2.2.2.2.2.2.2.1, es49.2.2.2.2.2.2.2.2.1, es49.2.2.2.2.2.2.2.2.2.1, es49.2.2.2.2.2.2.2.2.2.2.1, rfl, es49.2.2.2.2.2.2.2.2.2.2.2.2.1, es49.2.2.2.2.2.2.2.2.2.2.2.2.2.1, rfl⟩ (fun s53 Is53 Fs53 (es53 : s53 98 15 = tq46 98 15 ∧ s53 98 16 = tq46 98 16 ∧ s53 98 17 = tq46 98 17 ∧ s53 98 18 = tq46 98 18 ∧ s53 98 13 = tq46 98 13 ∧ s53 98 14 = tq46 98 14 ∧ s53 98 5 = σ2 98 5 ∧ s53 98 6 = σ2 98 6 ∧ s53 98 7 = σ2 98 7 ∧ s53 98 8 = H47 ∧ s53 98 9 = σ2 98 9 ∧ s53 101 18 = ((σ2 101 18) + 1) ∧ s53 101 25 = σ2 101 25 ∧ s53 101 43 = σ2 101 43 ∧ s53 = h_up s49 101 18 ((σ2 101 18) + 1)) => ?_))
      clear hz50
      refine d_toL (g_inj ns) hlw34 hRq46 (fun lvw54 memw54 hlw54 hRw54 => ?_)
      show h_T g_P (g_Y ns) 60 49 [(0, .ref 63), (1, .ref 69), (2, .int x2)] [.int rq46x] sq46 _
      refine h_istore_n (pc' := 50) (M := [(3, .int rq46x), (0, .ref 63), (1, .ref 69), (2, .int x2)]) rfl rfl rfl rfl ?_
      refine h_aload_n (pc' := 51) rfl rfl rfl ?_
      refine h_getI (pc' := 54) (v := sq46 63 2) rfl rfl rfl rfl rfl rfl (fun z55 hz55 => ?_)
      have tz55 := tf_63_2 Isq46
      refine h_zne (tg := 64) (pc' := 57) rfl rfl rfl hz55 (fun c56 => ?_) (fun c56 => absurd c56 (by omega))
      clear hz55
      exact h_wk [(0, .ref 63)] ⟨rfl, trivial⟩ (kx0 _ _ Isq46 Is53 Fsq46 Fs53 (by omega) (by omega) (by omega) (by omega) (by omega) (fun h => absurd h (by omega)) (Or.inl ⟨by omega, by omega, by omega, by omega⟩) _ _ (h_al_ok ⟨rfl, trivial⟩ hlw54) hRw54)
    · exfalso; omega
  · show h_T g_P (g_Y ns) 60 14 [(0, .ref 63), (1, .ref 69), (2, .int x2)] [] σ1 _
    refine h_aload_n (pc' := 15) rfl rfl rfl ?_
    refine h_call (sp := false) (pc' := 18) (M := [(0, .ref 63)]) rfl rfl rfl rfl rfl rfl rfl rfl ?_
    refine h_aload_n (pc' := 1) rfl rfl rfl ?_
    refine h_getI (pc' := 4) (v := σ1 63 2) rfl rfl rfl rfl rfl rfl (fun z57 hz57 => ?_)
    have tz57 := tf_63_2 hI1
    refine h_zne (tg := 22) (pc' := 7) rfl rfl rfl hz57 (fun c58 => absurd c58 (by omega)) (fun c58 => ?_)
    clear hz57
    refine h_aload_n (pc' := 8) rfl rfl rfl ?_
    refine h_getR (pc' := 11) rfl rfl rfl rfl rfl ?_
    refine h_getI (pc' := 14) (v := σ1 64 3) rfl rfl rfl rfl rfl rfl (fun z59 hz59 => ?_)
    have tz59 := tf_64_3 hI1
    refine h_iconst (pc' := 15) (x := (Int32.ofInt 2)) rfl rfl rfl ?_
    refine h_cne (tg := 22) (pc' := 18) rfl rfl rfl hz59 ci_2 (fun c60 => absurd c60 (by omega)) (fun c60 => ?_)
    clear hz59
    refine h_iconst (pc' := 19) (x := (Int32.ofInt 1)) rfl rfl rfl ?_
    refine h_goto (pc' := 23) rfl rfl ?_
    refine h_zret rfl rfl ci_1 (by omega) (h_Kv ?_)
    refine h_zeq (tg := 44) (pc' := 21) rfl rfl rfl ci_1 (fun c61 => absurd c61 (by omega)) (fun c61 => ?_)
    refine h_aload_n (pc' := 22) rfl rfl rfl ?_
    refine h_getR (pc' := 25) rfl rfl rfl rfl rfl ?_
    refine h_getI (pc' := 28) (v := σ1 64 5) rfl rfl rfl rfl rfl rfl (fun z62 hz62 => ?_)
    have tz62 := tf_64_5 hI1
    refine h_iload_n (pc' := 29) rfl rfl rfl ?_
    refine h_cne (tg := 44) (pc' := 32) rfl rfl rfl hz62 hx2 (fun c63 => ?_) (fun c63 => ?_)
    · clear hz62
      refine h_aload_n (pc' := 45) rfl rfl rfl ?_
      refine h_iconst (pc' := 46) (x := (Int32.ofInt 5)) rfl rfl rfl ?_
      refine d_toM (g_inj ns) hl2 hR2 (fun lvw64 memw64 hlw64 hRw64 => ?_)
      show h_T g_P (g_Y ns) 151 5 [(0, .ref 98), (1, .int (Int32.ofInt 12)), (2, .int y2), (3, .int y3)] [] σ2 _
      refine h_aload_n (pc' := 6) rfl rfl rfl ?_
      refine h_getI (pc' := 9) (v := σ2 98 13) rfl rfl rfl rfl rfl rfl (fun z65 hz65 => ?_)
      have tz65 := tf_98_13 hI2
      refine h_zne (tg := 33) (pc' := 12) rfl rfl rfl hz65 (fun c66 => absurd c66 (by omega)) (fun c66 => ?_)
      clear hz65
      refine h_aload_n (pc' := 13) rfl rfl rfl ?_
      refine h_getI (pc' := 16) (v := σ2 98 17) rfl rfl rfl rfl rfl rfl (fun z67 hz67 => ?_)
      have tz67 := tf_98_17 hI2
      refine h_iconst (pc' := 17) (x := (Int32.ofInt 2)) rfl rfl rfl ?_
      refine h_cne (tg := 33) (pc' := 20) rfl rfl rfl hz67 ci_2 (fun c68 => absurd c68 (by omega)) (fun c68 => ?_)
      clear hz67
      refine h_aload_n (pc' := 21) rfl rfl rfl ?_
      refine h_getI (pc' := 24) (v := σ2 98 18) rfl rfl rfl rfl rfl rfl (fun z69 hz69 => ?_)
      have tz69 := tf_98_18 hI2
      refine h_iload_n (pc' := 25) rfl rfl rfl ?_
      refine h_cne (tg := 33) (pc' := 28) rfl rfl rfl hz69 hy3 (fun c70 => ?_) (fun c70 => ?_)
      · clear hz69
        refine h_aload_n (pc' := 34) rfl rfl rfl ?_
        refine h_getR (pc' := 37) rfl rfl rfl rfl rfl ?_
        refine h_iload_n (pc' := 38) rfl rfl rfl ?_
        refine h_iconst (pc' := 39) (x := (Int32.ofInt 2)) rfl rfl rfl ?_
        refine h_iload_n (pc' := 40) rfl rfl rfl ?_
        refine h_imul (pc' := 41) rfl rfl ci_2 hy2 rfl (by omega) (by omega) (fun z71 hz71 => ?_)
        refine h_iadd (pc' := 42) rfl rfl ci_12 hz71 rfl (by omega) (by omega) (fun z72 hz72 => ?_)
        clear hz71
        refine h_iload_n (pc' := 43) rfl rfl rfl ?_
        refine h_iast (pc' := 44) rfl rfl rfl rfl hz72 (by omega) (by omega) hy3 (h_fgt (E := fun s => s 98 15 = σ2 98 15 ∧ s 98 16 = σ2 98 16 ∧ s 98 17 = σ2 98 17 ∧ s 98 18 = σ2 98 18 ∧ s 98 13 = σ2 98 13 ∧ s 98 14 = σ2 98 14 ∧ s 98 5 = σ2 98 5 ∧ s 98 6 = σ2 98 6 ∧ s 98 7 = σ2 98 7 ∧ s 98 8 = σ2 98 8 ∧ s 98 9 = σ2 98 9 ∧ s 101 18 = σ2 101 18 ∧ s 101 25 = σ2 101 25 ∧ s 101 43 = σ2 101 43 ∧ s = h_up σ2 101 (12 + (2 * c2)) c3) _ (ip_101_2 hI2 (by omega) (by omega)) (F2.up rfl) ⟨rfl, rfl, rfl, rfl, rfl, rfl, rfl, rfl, rfl, rfl, rfl, h_up_n2 (by omega) rfl, h_up_n2 (by omega) rfl, h_up_n2 (by omega) rfl, rfl⟩ (fun s73 Is73 Fs73 (es73 : s73 98 15 = σ2 98 15 ∧ s73 98 16 = σ2 98 16 ∧ s73 98 17 = σ2 98 17 ∧ s73 98 18 = σ2 98 18 ∧ s73 98 13 = σ2 98 13 ∧ s73 98 14 = σ2 98 14 ∧ s73 98 5 = σ2 98 5 ∧ s73 98 6 = σ2 98 6 ∧ s73 98 7 = σ2 98 7 ∧ s73 98 8 = σ2 98 8 ∧ s73 98 9 = σ2 98 9 ∧ s73 101 18 = σ2 101 18 ∧ s73 101 25 = σ2 101 25 ∧ s73 101 43 = σ2 101 43 ∧ s73 = h_up σ2 101 (12 + (2 * c2)) c3) => ?_))
        clear hz72
        refine h_aload_n (pc' := 45) rfl rfl rfl ?_
        refine h_getR (pc' := 48) rfl rfl rfl rfl rfl ?_
        refine h_iload_n (pc' := 49) rfl rfl rfl ?_
        refine h_iconst (pc' := 50) (x := (Int32.ofInt 2)) rfl rfl rfl ?_
        refine h_iload_n (pc' := 51) rfl rfl rfl ?_
        refine h_imul (pc' := 52) rfl rfl ci_2 hy2 rfl (by omega) (by omega) (fun z74 hz74 => ?_)
        refine h_iadd (pc' := 53) rfl rfl ci_12 hz74 rfl (by omega) (by omega) (fun z75 hz75 => ?_)
        clear hz74
        refine h_iconst (pc' := 54) (x := (Int32.ofInt 1)) rfl rfl rfl ?_
        refine h_iadd (pc' := 55) rfl rfl hz75 ci_1 rfl (by omega) (by omega) (fun z76 hz76 => ?_)
        clear hz75
        refine h_aload_n (pc' := 56) rfl rfl rfl ?_
        refine d_call (g_inj ns) (pc' := 59) (m := 150) (M := [(0, .ref 98)]) (rest := [.int z76, .ref 101]) ⟨false, _, _, _, _, _, _, rfl, rfl, rfl, rfl, rfl, rfl, rfl⟩ (fun lv77 hlv77 => ?_)
        refine h_aload_n (pc' := 1) rfl rfl rfl ?_
        refine h_iconst (pc' := 2) (x := (Int32.ofInt 0)) rfl rfl rfl ?_
        refine h_iconst (pc' := 3) (x := (Int32.ofInt 5)) rfl rfl rfl ?_
        refine d_pcall (g_inj ns) (m1 := 58) (pc1' := 49) (M1 := [(0, .ref 63), (1, .int (Int32.ofInt 5))]) (rest1 := []) (m2 := 149) (pc2' := 6) (M2 := [(0, .ref 98), (1, .int (Int32.ofInt 0)), (2, .int (Int32.ofInt 5))]) (rest2 := []) ⟨false, _, _, _, _, _, _, rfl, rfl, rfl, rfl, rfl, rfl, rfl⟩ ⟨false, _, _, _, _, _, _, rfl, rfl, rfl, rfl, rfl, rfl, rfl⟩ hRw64 ?_
        refine pp_num hI1 Is73 (hTL.fr (F1.mono rfl) (Fs73.mono rfl)) (Int32.ofInt 5) _ ci_5 (Int32.ofInt 5) _ ci_5 (by omega) (by omega) (by omega) (by omega) (by omega) (by omega) (Or.inr (Or.inr (Or.inr (Or.inl ⟨by omega, by omega, by omega, by omega, by omega, by omega, by omega, by omega⟩)))) (fun rq78x bq78x hq78x rq78m bq78m hq78m sq78 tq78 Isq78 Itq78 Gsq78 Gtq78 yq78_0 yq78_1 yq78_2 yq78_3 yq78_4 pcq78 memq78 hRq78 => ?_)
        have Fsq78 := (Gsq78.mono (B := k_pl) rfl).tr F1
        have Ftq78 := (Gtq78.mono (B := k_pm) rfl).tr Fs73
        have esq78_6 : sq78 64 1 = σ1 64 1 := (Gsq78 64 1 rfl).trans rfl
        have esq78_7 : sq78 66 8 = σ1 66 8 := (Gsq78 66 8 rfl).trans rfl
        have esq78_8 : sq78 66 9 = σ1 66 9 := (Gsq78 66 9 rfl).trans rfl
        have esq78_9 : sq78 66 10 = σ1 66 10 := (Gsq78 66 10 rfl).trans rfl
        have esq78_10 : sq78 69 2 = σ1 69 2 := (Gsq78 69 2 rfl).trans rfl
        have esq78_11 : sq78 72 2 = σ1 72 2 := (Gsq78 72 2 rfl).trans rfl
        have esq78_12 : sq78 63 5 = σ1 63 5 := (Gsq78 63 5 rfl).trans rfl
        have etq78_6 : tq78 98 5 = σ2 98 5 := (Gtq78 98 5 rfl).trans es73.2.2.2.2.2.2.1
        have etq78_7 : tq78 98 6 = σ2 98 6 := (Gtq78 98 6 rfl).trans es73.2.2.2.2.2.2.2.1
        have etq78_8 : tq78 98 7 = σ2 98 7 := (Gtq78 98 7 rfl).trans es73.2.2.2.2.2.2.2.2.1
        have etq78_9 : tq78 98 8 = σ2 98 8 := (Gtq78 98 8 rfl).trans es73.2.2.2.2.2.2.2.2.2.1
        have etq78_10 : tq78 98 9 = σ2 98 9 := (Gtq78 98 9 rfl).trans es73.2.2.2.2.2.2.2.2.2.2.1
        have etq78_11 : tq78 101 18 = σ2 101 18 := (Gtq78 101 18 rfl).trans es73.2.2.2.2.2.2.2.2.2.2.2.1
        have etq78_12 : tq78 101 25 = σ2 101 25 := (Gtq78 101 25 rfl).trans es73.2.2.2.2.2.2.2.2.2.2.2.2.1
        have etq78_13 : tq78 101 43 = σ2 101 43 := (Gtq78 101 43 rfl).trans es73.2.2.2.2.2.2.2.2.2.2.2.2.2.1
        rcases pcq78 with pcq78 | pcq78
        · show h_T g_P (g_Y ns) 150 6 [(0, .ref 98)] [.int rq78m] tq78 _
          refine h_istore_n (pc' := 7) (M := [(1, .int rq78m), (0, .ref 98)]) rfl rfl rfl rfl ?_
          have oH79 : tq78 98 8 = σ2 98 8 := etq78_9
          have uH79 := tf_98_8 Itq78
          refine lm_hi _ Itq78 rq78m _ hq78m (by omega) (fun H79 hH79 => (h_fgt (E := fun s => s 98 15 = tq78 98 15 ∧ s 98 16 = tq78 98 16 ∧ s 98 17 = tq78 98 17 ∧ s 98 18 = tq78 98 18 ∧ s 98 13 = tq78 98 13 ∧ s 98 14 = tq78 98 14 ∧ s 98 5 = σ2 98 5 ∧ s 98 6 = σ2 98 6 ∧ s 98 7 = σ2 98 7 ∧ s 98 8 = H79 ∧ s 98 9 = σ2 98 9 ∧ s 101 18 = σ2 101 18 ∧ s 101 25 = σ2 101 25 ∧ s 101 43 = σ2 101 43 ∧ s = h_up tq78 98 8 H79) _ (if_98_8 Itq78 (by omega)) (Ftq78.up rfl) ⟨rfl, rfl, rfl, rfl, rfl, rfl, etq78_6, etq78_7, etq78_8, rfl, etq78_10, etq78_11, etq78_12, etq78_13, rfl⟩ (fun s80 Is80 Fs80 (es80 : s80 98 15 = tq78 98 15 ∧ s80 98 16 = tq78 98 16 ∧ s80 98 17 = tq78 98 17 ∧ s80 98 18 = tq78 98 18 ∧ s80 98 13 = tq78 98 13 ∧ s80 98 14 = tq78 98 14 ∧ s80 98 5 = σ2 98 5 ∧ s80 98 6 = σ2 98 6 ∧ s80 98 7 = σ2 98 7 ∧ s80 98 8 = H79 ∧ s80 98 9 = σ2 98 9 ∧ s80 101 18 = σ2 101 18 ∧ s80 101 25 = σ2 101 25 ∧ s80 101 43 = σ2 101 43 ∧ s80 = h_up tq78 98 8 H79) => ?_)))
          refine h_iload_n (pc' := 28) rfl rfl rfl ?_
          refine h_iret rfl rfl (d_ret hlv77 ?_)
          refine h_iast (pc' := 60) rfl rfl rfl rfl hz76 (by omega) (by omega) hq78m (h_fgt (E := fun s => s 98 15 = tq78 98 15 ∧ s 98 16 = tq78 98 16 ∧ s 98 17 = tq78 98 17 ∧ s 98 18 = tq78 98 18 ∧ s 98 13 = tq78 98 13 ∧ s 98 14 = tq78 98 14 ∧ s 98 5 = σ2 98 5 ∧ s 98 6 = σ2 98 6 ∧ s 98 7 = σ2 98 7 ∧ s 98 8 = H79 ∧ s 98 9 = σ2 98 9 ∧ s 101 18 = σ2 101 18 ∧ s 101 25 = σ2 101 25 ∧ s 101 43 = σ2 101 43 ∧ s = h_up s80 101 ((12 + (2 * c2)) + 1) bq78m) _ (ip_101_2 Is80 (by omega) (by omega)) (Fs80.up rfl) ⟨es80.1, es80.2.1, es80.2.2.1, es80.2.2.2.1, es80.2.2.2.2.1, es80.2.2.2.2.2.1, es80.2.2.2.2.2.2.1, es80.2.2.2.2.2.2.2.1, es80.2.2.2.2.2.2.2.2.1, es80.2.2.2.2.2.2.2.2.2.1, es80.2.2.2.2.2.2.2.2.2.2.1, h_up_n2 (by omega) es80.2.2.2.2.2.2.2.2.2.2.2.1, h_up_n2 (by omega) es80.2.2.2.2.2.2.2.2.2.2.2.2.1, h_up_n2 (by omega) es80.2.2.2.2.2.2.2.2.2.2.2.2.2.1, rfl⟩ (fun s81 Is81 Fs81 (es81 : s81 98 15 = tq78 98 15 ∧ s81 98 16 = tq78 98 16 ∧ s81 98 17 = tq78 98 17 ∧ s81 98 18 = tq78 98 18 ∧ s81 98 13 = tq78 98 13 ∧ s81 98 14 = tq78 98 14 ∧ s81 98 5 = σ2 98 5 ∧ s81 98 6 = σ2 98 6 ∧ s81 98 7 = σ2 98 7 ∧ s81 98 8 = H79 ∧ s81 98 9 = σ2 98 9 ∧ s81 101 18 = σ2 101 18 ∧ s81 101 25 = σ2 101 25 ∧ s81 101 43 = σ2 101 43 ∧ s81 = h_up s80 101 ((12 + (2 * c2)) + 1) bq78m) => ?_))
          clear hq78m hz76
          refine h_aload_n (pc' := 61) rfl rfl rfl ?_
          refine h_getR (pc' := 64) rfl rfl rfl rfl rfl ?_
          refine h_iload_n (pc' := 65) rfl rfl rfl ?_
          refine h_bipush (pc' := 67) (x := (Int32.ofInt 6)) rfl rfl cb_6 ?_
          refine h_iadd (pc' := 68) (c := 18) rfl rfl ci_12 ci_6 rfl (by omega) (by omega) (fun z82 hz82 => ?_)
          refine h_dup2 (pc' := 69) rfl rfl rfl ?_
          refine h_iald (pc' := 70) (v := σ2 101 18) rfl rfl rfl hz82 (by omega) (by omega) es81.2.2.2.2.2.2.2.2.2.2.2.1 (fun z83 hz83 => ?_)
          have tz83 := ty_101_3 hI2 18 (by omega)
          refine h_iconst (pc' := 71) (x := (Int32.ofInt 1)) rfl rfl rfl ?_
          refine h_iadd (pc' := 72) rfl rfl hz83 ci_1 rfl (by omega) (by omega) (fun z84 hz84 => ?_)
          clear hz83
          refine h_iast (pc' := 73) rfl rfl rfl rfl hz82 (by omega) (by omega) hz84 (h_fgt (E := fun s => s 98 15 = tq78 98 15 ∧ s 98 16 = tq78 98 16 ∧ s 98 17 = tq78 98 17 ∧ s 98 18 = tq78 98 18 ∧ s 98 13 = tq78 98 13 ∧ s 98 14 = tq78 98 14 ∧ s 98 5 = σ2 98 5 ∧ s 98 6 = σ2 98 6 ∧ s 98 7 = σ2 98 7 ∧ s 98 8 = H79 ∧ s 98 9 = σ2 98 9 ∧ s 101 18 = ((σ2 101 18) + 1) ∧ s 101 25 = σ2 101 25 ∧ s 101 43 = σ2 101 43 ∧ s = h_up s81 101 18 ((σ2 101 18) + 1)) _ (ip_101_3 Is81 (by omega) (by omega)) (Fs81.up rfl) ⟨es81.1, es81.2.1, es81.2.2.1, es81.2.2.2.1, es81.2.2.2.2.1, es81.2.2.2.2.2.1, es81.2.2.2.2.2.2.1, es81.2.2.2.2.2.2.2.1, es81.2.2.2.2.2.2.2.2.1, es81.2.2.2.2.2.2.2.2.2.1, es81.2.2.2.2.2.2.2.2.2.2.1, rfl, es81.2.2.2.2.2.2.2.2.2.2.2.2.1, es81.2.2.2.2.2.2.2.2.2.2.2.2.2.1, rfl⟩ (fun s85 Is85 Fs85 (es85 : s85 98 15 = tq78 98 15 ∧ s85 98 16 = tq78 98 16 ∧ s85 98 17 = tq78 98 17 ∧ s85 98 18 = tq78 98 18 ∧ s85 98 13 = tq78 98 13 ∧ s85 98 14 = tq78 98 14 ∧ s85 98 5 = σ2 98 5 ∧ s85 98 6 = σ2 98 6 ∧ s85 98 7 = σ2 98 7 ∧ s85 98 8 = H79 ∧ s85 98 9 = σ2 98 9 ∧ s85 101 18 = ((σ2 101 18) + 1) ∧ s85 101 25 = σ2 101 25 ∧ s85 101 43 = σ2 101 43 ∧ s85 = h_up s81 101 18 ((σ2 101 18) + 1)) => ?_))
          clear hz82
          refine d_toL (g_inj ns) hlw64 hRq78 (fun lvw86 memw86 hlw86 hRw86 => ?_)
          show h_T g_P (g_Y ns) 60 49 [(0, .ref 63), (1, .ref 69), (2, .int x2)] [.int rq78x] sq78 _
          refine h_istore_n (pc' := 50) (M := [(3, .int rq78x), (0, .ref 63), (1, .ref 69), (2, .int x2)]) rfl rfl rfl rfl ?_
          refine h_aload_n (pc' := 51) rfl rfl rfl ?_
          refine h_getI (pc' := 54) (v := sq78 63 2) rfl rfl rfl rfl rfl rfl (fun z87 hz87 => ?_)
          have tz87 := tf_63_2 Isq78
          refine h_zne (tg := 64) (pc' := 57) rfl rfl rfl hz87 (fun c88 => ?_) (fun c88 => absurd c88 (by omega))
          clear hz87
          exact h_wk [(0, .ref 63)] ⟨rfl, trivial⟩ (kx0 _ _ Isq78 Is85 Fsq78 Fs85 (by omega) (by omega) (by omega) (by omega) (by omega) (fun h => absurd h (by omega)) (Or.inl ⟨by omega, by omega, by omega, by omega⟩) _ _ (h_al_ok ⟨rfl, trivial⟩ hlw86) hRw86)
        · show h_T g_P (g_Y ns) 150 6 [(0, .ref 98)] [.int rq78m] tq78 _
          refine h_istore_n (pc' := 7) (M := [(1, .int rq78m), (0, .ref 98)]) rfl rfl rfl rfl ?_
          have oH89 : tq78 98 8 = σ2 98 8 := etq78_9
          have uH89 := tf_98_8 Itq78
          refine lm_hi _ Itq78 rq78m _ hq78m (by omega) (fun H89 hH89 => (h_fgt (E := fun s => s 98 15 = tq78 98 15 ∧ s 98 16 = tq78 98 16 ∧ s 98 17 = tq78 98 17 ∧ s 98 18 = tq78 98 18 ∧ s 98 13 = tq78 98 13 ∧ s 98 14 = tq78 98 14 ∧ s 98 5 = σ2 98 5 ∧ s 98 6 = σ2 98 6 ∧ s 98 7 = σ2 98 7 ∧ s 98 8 = H89 ∧ s 98 9 = σ2 98 9 ∧ s 101 18 = σ2 101 18 ∧ s 101 25 = σ2 101 25 ∧ s 101 43 = σ2 101 43 ∧ s = h_up tq78 98 8 H89) _ (if_98_8 Itq78 (by omega)) (Ftq78.up rfl) ⟨rfl, rfl, rfl, rfl, rfl, rfl, etq78_6, etq78_7, etq78_8, rfl, etq78_10, etq78_11, etq78_12, etq78_13, rfl⟩ (fun s90 Is90 Fs90 (es90 : s90 98 15 = tq78 98 15 ∧ s90 98 16 = tq78 98 16 ∧ s90 98 17 = tq78 98 17 ∧ s90 98 18 = tq78 98 18 ∧ s90 98 13 = tq78 98 13 ∧ s90 98 14 = tq78 98 14 ∧ s90 98 5 = σ2 98 5 ∧ s90 98 6 = σ2 98 6 ∧ s90 98 7 = σ2 98 7 ∧ s90 98 8 = H89 ∧ s90 98 9 = σ2 98 9 ∧ s90 101 18 = σ2 101 18 ∧ s90 101 25 = σ2 101 25 ∧ s90 101 43 = σ2 101 43 ∧ s90 = h_up tq78 98 8 H89) => ?_)))
          refine h_iload_n (pc' := 28) rfl rfl rfl ?_
          refine h_iret rfl rfl (d_ret hlv77 ?_)
          refine h_iast (pc' := 60) rfl rfl rfl rfl hz76 (by omega) (by omega) hq78m (h_fgt (E := fun s => s 98 15 = tq78 98 15 ∧ s 98 16 = tq78 98 16 ∧ s 98 17 = tq78 98 17 ∧ s 98 18 = tq78 98 18 ∧ s 98 13 = tq78 98 13 ∧ s 98 14 = tq78 98 14 ∧ s 98 5 = σ2 98 5 ∧ s 98 6 = σ2 98 6 ∧ s 98 7 = σ2 98 7 ∧ s 98 8 = H89 ∧ s 98 9 = σ2 98 9 ∧ s 101 18 = σ2 101 18 ∧ s 101 25 = σ2 101 25 ∧ s 101 43 = σ2 101 43 ∧ s = h_up s90 101 ((12 + (2 * c2)) + 1) bq78m) _ (ip_101_2 Is90 (by omega) (by omega)) (Fs90.up rfl) ⟨es90.1, es90.2.1, es90.2.2.1, es90.2.2.2.1, es90.2.2.2.2.1, es90.2.2.2.2.2.1, es90.2.2.2.2.2.2.1, es90.2.2.2.2.2.2.2.1, es90.2.2.2.2.2.2.2.2.1, es90.2.2.2.2.2.2.2.2.2.1, es90.2.2.2.2.2.2.2.2.2.2.1, h_up_n2 (by omega) es90.2.2.2.2.2.2.2.2.2.2.2.1, h_up_n2 (by omega) es90.2.2.2.2.2.2.2.2.2.2.2.2.1, h_up_n2 (by omega) es90.2.2.2.2.2.2.2.2.2.2.2.2.2.1, rfl⟩ (fun s91 Is91 Fs91 (es91 : s91 98 15 = tq78 98 15 ∧ s91 98 16 = tq78 98 16 ∧ s91 98 17 = tq78 98 17 ∧ s91 98 18 = tq78 98 18 ∧ s91 98 13 = tq78 98 13 ∧ s91 98 14 = tq78 98 14 ∧ s91 98 5 = σ2 98 5 ∧ s91 98 6 = σ2 98 6 ∧ s91 98 7 = σ2 98 7 ∧ s91 98 8 = H89 ∧ s91 98 9 = σ2 98 9 ∧ s91 101 18 = σ2 101 18 ∧ s91 101 25 = σ2 101 25 ∧ s91 101 43 = σ2 101 43 ∧ s91 = h_up s90 101 ((12 + (2 * c2)) + 1) bq78m) => ?_))
          clear hq78m hz76
          refine h_aload_n (pc' := 61) rfl rfl rfl ?_
          refine h_getR (pc' := 64) rfl rfl rfl rfl rfl ?_
          refine h_iload_n (pc' := 65) rfl rfl rfl ?_
          refine h_bipush (pc' := 67) (x := (Int32.ofInt 6)) rfl rfl cb_6 ?_
          refine h_iadd (pc' := 68) (c := 18) rfl rfl ci_12 ci_6 rfl (by omega) (by omega) (fun z92 hz92 => ?_)
          refine h_dup2 (pc' := 69) rfl rfl rfl ?_
          refine h_iald (pc' := 70) (v := σ2 101 18) rfl rfl rfl hz92 (by omega) (by omega) es91.2.2.2.2.2.2.2.2.2.2.2.1 (fun z93 hz93 => ?_)
          have tz93 := ty_101_3 hI2 18 (by omega)
          refine h_iconst (pc' := 71) (x := (Int32.ofInt 1)) rfl rfl rfl ?_
          refine h_iadd (pc' := 72) rfl rfl hz93 ci_1 rfl (by omega) (by omega) (fun z94 hz94 => ?_)
          clear hz93
          refine h_iast (pc' := 73) rfl rfl rfl rfl hz92 (by omega) (by omega) hz94 (h_fgt (E := fun s => s 98 15 = tq78 98 15 ∧ s 98 16 = tq78 98 16 ∧ s 98 17 = tq78 98 17 ∧ s 98 18 = tq78 98 18 ∧ s 98 13 = tq78 98 13 ∧ s 98 14 = tq78 98 14 ∧ s 98 5 = σ2 98 5 ∧ s 98 6 = σ2 98 6 ∧ s 98 7 = σ2 98 7 ∧ s 98 8 = H89 ∧ s 98 9 = σ2 98 9 ∧ s 101 18 = ((σ2 101 18) + 1) ∧ s 101 25 = σ2 101 25 ∧ s 101 43 = σ2 101 43 ∧ s = h_up s91 101 18 ((σ2 101 18) + 1)) _ (ip_101_3 Is91 (by omega) (by omega)) (Fs91.up rfl) ⟨es91.1, es91.2.1, es91.2.2.1, es91.2.2.2.1, es91.2.2.2.2.1, es91.2.2.2.2.2.1, es91.2.2.2.2.2.2.1, es91.2.2.2.2.2.2.2.1, es91.2.2.2.2.2.2.2.2.1, es91.2.2.2.2.2.2.2.2.2.1, es91.2.2.2.2.2.2.2.2.2.2.1, rfl, es91.2.2.2.2.2.2.2.2.2.2.2.2.1, es91.2.2.2.2.2.2.2.2.2.2.2.2.2.1, rfl⟩ (fun s95 Is95 Fs95 (es95 : s95 98 15 = tq78 98 15 ∧ s95 98 16 = tq78 98 16 ∧ s95 98 17 = tq78 98 17 ∧ s95 98 18 = tq78 98 18 ∧ s95 98 13 = tq78 98 13 ∧ s95 98 14 = tq78 98 14 ∧ s95 98 5 = σ2 98 5 ∧ s95 98 6 = σ2 98 6 ∧ s95 98 7 = σ2 98 7 ∧ s95 98 8 = H89 ∧ s95 98 9 = σ2 98 9 ∧ s95 101 18 = ((σ2 101 18) + 1) ∧ s95 101 25 = σ2 101 25 ∧ s95 101 43 = σ2 101 43 ∧ s95 = h_up s91 101 18 ((σ2 101 18) + 1)) => ?_))
          clear hz92
          refine d_toL (g_inj ns) hlw64 hRq78 (fun lvw96 memw96 hlw96 hRw96 => ?_)
          show h_T g_P (g_Y ns) 60 49 [(0, .ref 63), (1, .ref 69), (2, .int x2)] [.int rq78x] sq78 _
          refine h_istore_n (pc' := 50) (M := [(3, .int rq78x), (0, .ref 63), (1, .ref 69), (2, .int x2)]) rfl rfl rfl rfl ?_
          refine h_aload_n (pc' := 51) rfl rfl rfl ?_
          refine h_getI (pc' := 54) (v := sq78 63 2) rfl rfl rfl rfl rfl rfl (fun z97 hz97 => ?_)
          have tz97 := tf_63_2 Isq78
          refine h_zne (tg := 64) (pc' := 57) rfl rfl rfl hz97 (fun c98 => absurd c98 (by omega)) (fun c98 => ?_)
          clear hz97
          refine h_aload_n (pc' := 58) rfl rfl rfl ?_
          refine h_iload_n (pc' := 59) rfl rfl rfl ?_
          refine h_iload_n (pc' := 60) rfl rfl rfl ?_
          refine h_call (sp := false) (pc' := 63) (M := [(0, .ref 69), (1, .int x2), (2, .int rq78x)]) rfl rfl rfl rfl rfl rfl rfl rfl ?_
          refine h_aload_n (pc' := 1) rfl rfl rfl ?_
          refine h_call (sp := false) (pc' := 4) (M := [(0, .ref 69)]) rfl rfl rfl rfl rfl rfl rfl rfl ?_
          refine h_aload_n (pc' := 1) rfl rfl rfl ?_
          refine h_getI (pc' := 4) (v := σ1 69 2) rfl rfl rfl rfl rfl esq78_10 (fun z99 hz99 => ?_)
          have tz99 := tf_69_2 hI1
          refine h_iconst (pc' := 5) (x := (Int32.ofInt 3)) rfl rfl rfl ?_
          refine h_clt (tg := 12) (pc' := 8) rfl rfl rfl hz99 ci_3 (fun c100 => ?_) (fun c100 => absurd c100 (by omega))
          clear hz99
          refine h_iconst (pc' := 13) (x := (Int32.ofInt 0)) rfl rfl rfl ?_
          refine h_zret rfl rfl ci_0 (by omega) (h_Kv ?_)
          refine h_zeq (tg := 9) (pc' := 7) rfl rfl rfl ci_0 (fun c101 => ?_) (fun c101 => absurd c101 (by omega))
          refine h_aload_n (pc' := 10) rfl rfl rfl ?_
          refine h_getR (pc' := 13) rfl rfl rfl rfl rfl ?_
          refine h_aload_n (pc' := 14) rfl rfl rfl ?_
          refine h_getI (pc' := 17) (v := σ1 69 2) rfl rfl rfl rfl rfl esq78_10 (fun z102 hz102 => ?_)
          refine h_iload_n (pc' := 18) rfl rfl rfl ?_
          refine h_iast (pc' := 19) rfl rfl rfl rfl hz102 (by omega) (by omega) hx2 (h_fgt (E := fun s => s 64 2 = sq78 64 2 ∧ s 64 4 = sq78 64 4 ∧ s 64 3 = sq78 64 3 ∧ s 64 5 = sq78 64 5 ∧ s 63 2 = sq78 63 2 ∧ s 63 3 = sq78 63 3 ∧ s 64 1 = σ1 64 1 ∧ s 66 8 = σ1 66 8 ∧ s 66 9 = σ1 66 9 ∧ s 66 10 = σ1 66 10 ∧ s 69 2 = σ1 69 2 ∧ s 72 2 = σ1 72 2 ∧ s 63 5 = σ1 63 5 ∧ s = h_up sq78 70 (σ1 69 2) a2) _ (in_70 Isq78 (by omega)) (Fsq78.up rfl) ⟨rfl, rfl, rfl, rfl, rfl, rfl, esq78_6, esq78_7, esq78_8, esq78_9, esq78_10, esq78_11, esq78_12, rfl⟩ (fun s103 Is103 Fs103 (es103 : s103 64 2 = sq78 64 2 ∧ s103 64 4 = sq78 64 4 ∧ s103 64 3 = sq78 64 3 ∧ s103 64 5 = sq78 64 5 ∧ s103 63 2 = sq78 63 2 ∧ s103 63 3 = sq78 63 3 ∧ s103 64 1 = σ1 64 1 ∧ s103 66 8 = σ1 66 8 ∧ s103 66 9 = σ1 66 9 ∧ s103 66 10 = σ1 66 10 ∧ s103 69 2 = σ1 69 2 ∧ s103 72 2 = σ1 72 2 ∧ s103 63 5 = σ1 63 5 ∧ s103 = h_up sq78 70 (σ1 69 2) a2) => ?_))
          clear hz102
          refine h_aload_n (pc' := 20) rfl rfl rfl ?_
          refine h_getR (pc' := 23) rfl rfl rfl rfl rfl ?_
          refine h_aload_n (pc' := 24) rfl rfl rfl ?_
          refine h_getI (pc' := 27) (v := σ1 69 2) rfl rfl rfl rfl rfl es103.2.2.2.2.2.2.2.2.2.2.1 (fun z104 hz104 => ?_)
          refine h_iload_n (pc' := 28) rfl rfl rfl ?_
          refine h_iast (pc' := 29) rfl rfl rfl rfl hz104 (by omega) (by omega) hq78x (h_fgt (E := fun s => s 64 2 = sq78 64 2 ∧ s 64 4 = sq78 64 4 ∧ s 64 3 = sq78 64 3 ∧ s 64 5 = sq78 64 5 ∧ s 63 2 = sq78 63 2 ∧ s 63 3 = sq78 63 3 ∧ s 64 1 = σ1 64 1 ∧ s 66 8 = σ1 66 8 ∧ s 66 9 = σ1 66 9 ∧ s 66 10 = σ1 66 10 ∧ s 69 2 = σ1 69 2 ∧ s 72 2 = σ1 72 2 ∧ s 63 5 = σ1 63 5 ∧ s = h_up s103 71 (σ1 69 2) bq78x) _ (in_71 Is103 (by omega)) (Fs103.up rfl) ⟨es103.1, es103.2.1, es103.2.2.1, es103.2.2.2.1, es103.2.2.2.2.1, es103.2.2.2.2.2.1, es103.2.2.2.2.2.2.1, es103.2.2.2.2.2.2.2.1, es103.2.2.2.2.2.2.2.2.1, es103.2.2.2.2.2.2.2.2.2.1, es103.2.2.2.2.2.2.2.2.2.2.1, es103.2.2.2.2.2.2.2.2.2.2.2.1, es103.2.2.2.2.2.2.2.2.2.2.2.2.1, rfl⟩ (fun s105 Is105 Fs105 (es105 : s105 64 2 = sq78 64 2 ∧ s105 64 4 = sq78 64 4 ∧ s105 64 3 = sq78 64 3 ∧ s105 64 5 = sq78 64 5 ∧ s105 63 2 = sq78 63 2 ∧ s105 63 3 = sq78 63 3 ∧ s105 64 1 = σ1 64 1 ∧ s105 66 8 = σ1 66 8 ∧ s105 66 9 = σ1 66 9 ∧ s105 66 10 = σ1 66 10 ∧ s105 69 2 = σ1 69 2 ∧ s105 72 2 = σ1 72 2 ∧ s105 63 5 = σ1 63 5 ∧ s105 = h_up s103 71 (σ1 69 2) bq78x) => ?_))
          clear hz104
          refine h_aload_n (pc' := 30) rfl rfl rfl ?_
          refine h_dup (pc' := 31) rfl rfl rfl ?_
          refine h_getI (pc' := 34) (v := σ1 69 2) rfl rfl rfl rfl rfl es105.2.2.2.2.2.2.2.2.2.2.1 (fun z106 hz106 => ?_)
          refine h_iconst (pc' := 35) (x := (Int32.ofInt 1)) rfl rfl rfl ?_
          refine h_iadd (pc' := 36) rfl rfl hz106 ci_1 rfl (by omega) (by omega) (fun z107 hz107 => ?_)
          clear hz106
          refine h_put (pc' := 39) rfl rfl rfl rfl rfl rfl hz107 rfl (h_fgt (E := fun s => s 64 2 = sq78 64 2 ∧ s 64 4 = sq78 64 4 ∧ s 64 3 = sq78 64 3 ∧ s 64 5 = sq78 64 5 ∧ s 63 2 = sq78 63 2 ∧ s 63 3 = sq78 63 3 ∧ s 64 1 = σ1 64 1 ∧ s 66 8 = σ1 66 8 ∧ s 66 9 = σ1 66 9 ∧ s 66 10 = σ1 66 10 ∧ s 69 2 = ((σ1 69 2) + 1) ∧ s 72 2 = σ1 72 2 ∧ s 63 5 = σ1 63 5 ∧ s = h_up s105 69 2 ((σ1 69 2) + 1)) _ (if_69_2 Is105 (by omega)) (Fs105.up rfl) ⟨es105.1, es105.2.1, es105.2.2.1, es105.2.2.2.1, es105.2.2.2.2.1, es105.2.2.2.2.2.1, es105.2.2.2.2.2.2.1, es105.2.2.2.2.2.2.2.1, es105.2.2.2.2.2.2.2.2.1, es105.2.2.2.2.2.2.2.2.2.1, rfl, es105.2.2.2.2.2.2.2.2.2.2.2.1, es105.2.2.2.2.2.2.2.2.2.2.2.2.1, rfl⟩ (fun s108 Is108 Fs108 (es108 : s108 64 2 = sq78 64 2 ∧ s108 64 4 = sq78 64 4 ∧ s108 64 3 = sq78 64 3 ∧ s108 64 5 = sq78 64 5 ∧ s108 63 2 = sq78 63 2 ∧ s108 63 3 = sq78 63 3 ∧ s108 64 1 = σ1 64 1 ∧ s108 66 8 = σ1 66 8 ∧ s108 66 9 = σ1 66 9 ∧ s108 66 10 = σ1 66 10 ∧ s108 69 2 = ((σ1 69 2) + 1) ∧ s108 72 2 = σ1 72 2 ∧ s108 63 5 = σ1 63 5 ∧ s108 = h_up s105 69 2 ((σ1 69 2) + 1)) => ?_))
          refine h_iconst (pc' := 40) (x := (Int32.ofInt 1)) rfl rfl rfl ?_
          refine h_zret rfl rfl ci_1 (by omega) (h_Kv ?_)
          refine h_pop (pc' := 64) rfl rfl rfl ?_
          exact h_wk [(0, .ref 63)] ⟨rfl, trivial⟩ (kx0 _ _ Is108 Is95 Fs108 Fs95 (by omega) (by omega) (by omega) (by omega) (by omega) (fun _ => d_mk (es108.2.2.2.2.2.2.2.1) (es108.2.2.2.2.2.2.2.2.1) (es108.2.2.2.2.2.2.2.2.2.1) (es108.2.2.2.2.2.2.2.2.2.2.1) (es108.2.2.2.2.2.2.2.2.2.2.2.1) (es108.2.2.2.2.2.2.2.2.2.2.2.2.1) (fun j => (h_upo es108.2.2.2.2.2.2.2.2.2.2.2.2.2 rfl j).trans ((h_upo es105.2.2.2.2.2.2.2.2.2.2.2.2.2 rfl j).trans ((h_upo es103.2.2.2.2.2.2.2.2.2.2.2.2.2 rfl j).trans ((Gsq78 67 j rfl))))) (fun j => (h_upo es108.2.2.2.2.2.2.2.2.2.2.2.2.2 rfl j).trans ((h_upo es105.2.2.2.2.2.2.2.2.2.2.2.2.2 rfl j).trans ((h_upo es103.2.2.2.2.2.2.2.2.2.2.2.2.2 rfl j).trans ((Gsq78 68 j rfl))))) (fun j => (h_upo es108.2.2.2.2.2.2.2.2.2.2.2.2.2 rfl j).trans ((h_upo es105.2.2.2.2.2.2.2.2.2.2.2.2.2 rfl j).trans ((h_upi es103.2.2.2.2.2.2.2.2.2.2.2.2.2 j).trans (congrArg (fun z => if j = (σ1 69 2) then a2 else z) ((Gsq78 70 j rfl)))))) (fun j => (h_upo es108.2.2.2.2.2.2.2.2.2.2.2.2.2 rfl j).trans ((h_upi es105.2.2.2.2.2.2.2.2.2.2.2.2.2 j).trans (congrArg (fun z => if j = (σ1 69 2) then bq78x else z) ((h_upo es103.2.2.2.2.2.2.2.2.2.2.2.2.2 rfl j).trans ((Gsq78 71 j rfl)))))) (fun j => (h_upo es108.2.2.2.2.2.2.2.2.2.2.2.2.2 rfl j).trans ((h_upo es105.2.2.2.2.2.2.2.2.2.2.2.2.2 rfl j).trans ((h_upo es103.2.2.2.2.2.2.2.2.2.2.2.2.2 rfl j).trans ((Gsq78 73 j rfl))))) (fun j => (h_upo es108.2.2.2.2.2.2.2.2.2.2.2.2.2 rfl j).trans ((h_upo es105.2.2.2.2.2.2.2.2.2.2.2.2.2 rfl j).trans ((h_upo es103.2.2.2.2.2.2.2.2.2.2.2.2.2 rfl j).trans ((Gsq78 74 j rfl))))) (fun j => (h_upo es108.2.2.2.2.2.2.2.2.2.2.2.2.2 rfl j).trans ((h_upo es105.2.2.2.2.2.2.2.2.2.2.2.2.2 rfl j).trans ((h_upo es103.2.2.2.2.2.2.2.2.2.2.2.2.2 rfl j).trans ((Gsq78 75 j rfl))))) (fun j => (h_upo es108.2.2.2.2.2.2.2.2.2.2.2.2.2 rfl j).trans ((h_upo es105.2.2.2.2.2.2.2.2.2.2.2.2.2 rfl j).trans ((h_upo es103.2.2.2.2.2.2.2.2.2.2.2.2.2 rfl j).trans ((Gsq78 76 j rfl))))) (fun j => (h_upo es108.2.2.2.2.2.2.2.2.2.2.2.2.2 rfl j).trans ((h_upo es105.2.2.2.2.2.2.2.2.2.2.2.2.2 rfl j).trans ((h_upo es103.2.2.2.2.2.2.2.2.2.2.2.2.2 rfl j).trans ((Gsq78 77 j rfl))))) (fun j => (h_upo es108.2.2.2.2.2.2.2.2.2.2.2.2.2 rfl j).trans ((h_upo es105.2.2.2.2.2.2.2.2.2.2.2.2.2 rfl j).trans ((h_upo es103.2.2.2.2.2.2.2.2.2.2.2.2.2 rfl j).trans ((Gsq78 78 j rfl))))) (es95.2.2.2.2.2.2.1) (es95.2.2.2.2.2.2.2.1) (es95.2.2.2.2.2.2.2.2.1) (es95.2.2.2.2.2.2.2.2.2.1) (es95.2.2.2.2.2.2.2.2.2.2.1) (fun j => (h_upi es95.2.2.2.2.2.2.2.2.2.2.2.2.2.2 j).trans (congrArg (fun z => if j = 18 then ((σ2 101 18) + 1) else z) ((h_upi es91.2.2.2.2.2.2.2.2.2.2.2.2.2.2 j).trans (congrArg (fun z => if j = ((12 + (2 * c2)) + 1) then bq78m else z) ((h_upo es90.2.2.2.2.2.2.2.2.2.2.2.2.2.2 rfl j).trans ((Gtq78 101 j rfl).trans ((h_upi es73.2.2.2.2.2.2.2.2.2.2.2.2.2.2 j)))))))) (r_mar pr10 (by omega) (by omega) (by omega) (by omega) (by omega) (by omega) (by omega) (by omega) (by omega) (by omega) (by omega) (by omega) (by omega) (by omega) (by omega) (by omega) (by omega))) (pcq78.elim (fun pcq78 => (Or.inr (Or.inl ⟨by omega, by omega, by omega, by omega, by omega, by omega⟩))) (fun pcq78 => (pcq78.elim (fun pcq78 => (Or.inr (Or.inr (Or.inl ⟨by omega, by omega, by omega, by omega, by omega, by omega⟩)))) (fun pcq78 => (pcq78.elim (fun pcq78 => (Or.inr (Or.inr (Or.inr (Or.inl ⟨by omega, by omega, by omega, by omega, by omega, by omega, by omega, by omega, by omega⟩))))) (fun pcq78 => (Or.inr (Or.inr (Or.inr (Or.inr ⟨by omega, by omega, by omega, by omega, by omega, by omega⟩)))))))))) _ _ (h_al_ok ⟨rfl, trivial⟩ hlw96) hRw96)
      · clear hz69
        refine h_aload_n (pc' := 29) rfl rfl rfl ?_
        refine h_iconst (pc' := 30) (x := (Int32.ofInt 3)) rfl rfl rfl ?_
        refine h_call (sp := false) (pc' := 33) (M := [(0, .ref 98), (1, .int (Int32.ofInt 3))]) rfl rfl rfl rfl rfl rfl rfl rfl ?_
        refine h_aload_n (pc' := 1) rfl rfl rfl ?_
        refine h_getI (pc' := 4) (v := σ2 98 13) rfl rfl rfl rfl rfl rfl (fun z109 hz109 => ?_)
        refine h_zne (tg := 20) (pc' := 7) rfl rfl rfl hz109 (fun c110 => absurd c110 (by omega)) (fun c110 => ?_)
        clear hz109
        refine h_aload_n (pc' := 8) rfl rfl rfl ?_
        refine h_iload_n (pc' := 9) rfl rfl rfl ?_
        refine h_put (pc' := 12) rfl rfl rfl rfl rfl rfl ci_3 rfl (h_fgt (E := fun s => s 98 15 = σ2 98 15 ∧ s 98 16 = σ2 98 16 ∧ s 98 17 = σ2 98 17 ∧ s 98 18 = σ2 98 18 ∧ s 98 13 = 3 ∧ s 98 14 = σ2 98 14 ∧ s 98 5 = σ2 98 5 ∧ s 98 6 = σ2 98 6 ∧ s 98 7 = σ2 98 7 ∧ s 98 8 = σ2 98 8 ∧ s 98 9 = σ2 98 9 ∧ s 101 18 = σ2 101 18 ∧ s 101 25 = σ2 101 25 ∧ s 101 43 = σ2 101 43 ∧ s = h_up σ2 98 13 3) _ (if_98_13 hI2 (by omega)) (F2.up rfl) ⟨rfl, rfl, rfl, rfl, rfl, rfl, rfl, rfl, rfl, rfl, rfl, rfl, rfl, rfl, rfl⟩ (fun s111 Is111 Fs111 (es111 : s111 98 15 = σ2 98 15 ∧ s111 98 16 = σ2 98 16 ∧ s111 98 17 = σ2 98 17 ∧ s111 98 18 = σ2 98 18 ∧ s111 98 13 = 3 ∧ s111 98 14 = σ2 98 14 ∧ s111 98 5 = σ2 98 5 ∧ s111 98 6 = σ2 98 6 ∧ s111 98 7 = σ2 98 7 ∧ s111 98 8 = σ2 98 8 ∧ s111 98 9 = σ2 98 9 ∧ s111 101 18 = σ2 101 18 ∧ s111 101 25 = σ2 101 25 ∧ s111 101 43 = σ2 101 43 ∧ s111 = h_up σ2 98 13 3) => ?_))
        refine h_aload_n (pc' := 13) rfl rfl rfl ?_
        refine h_aload_n (pc' := 14) rfl rfl rfl ?_
        refine h_getI (pc' := 17) (v := σ2 98 16) rfl rfl rfl rfl rfl es111.2.1 (fun z112 hz112 => ?_)
        have tz112 := tf_98_16 hI2
        refine h_put (pc' := 20) rfl rfl rfl rfl rfl rfl hz112 rfl (h_fgt (E := fun s => s 98 15 = σ2 98 15 ∧ s 98 16 = σ2 98 16 ∧ s 98 17 = σ2 98 17 ∧ s 98 18 = σ2 98 18 ∧ s 98 13 = 3 ∧ s 98 14 = (σ2 98 16) ∧ s 98 5 = σ2 98 5 ∧ s 98 6 = σ2 98 6 ∧ s 98 7 = σ2 98 7 ∧ s 98 8 = σ2 98 8 ∧ s 98 9 = σ2 98 9 ∧ s 101 18 = σ2 101 18 ∧ s 101 25 = σ2 101 25 ∧ s 101 43 = σ2 101 43 ∧ s = h_up s111 98 14 (σ2 98 16)) _ (if_98_14 Is111 (h_rgv hz112)) (Fs111.up rfl) ⟨es111.1, es111.2.1, es111.2.2.1, es111.2.2.2.1, es111.2.2.2.2.1, rfl, es111.2.2.2.2.2.2.1, es111.2.2.2.2.2.2.2.1, es111.2.2.2.2.2.2.2.2.1, es111.2.2.2.2.2.2.2.2.2.1, es111.2.2.2.2.2.2.2.2.2.2.1, es111.2.2.2.2.2.2.2.2.2.2.2.1, es111.2.2.2.2.2.2.2.2.2.2.2.2.1, es111.2.2.2.2.2.2.2.2.2.2.2.2.2.1, rfl⟩ (fun s113 Is113 Fs113 (es113 : s113 98 15 = σ2 98 15 ∧ s113 98 16 = σ2 98 16 ∧ s113 98 17 = σ2 98 17 ∧ s113 98 18 = σ2 98 18 ∧ s113 98 13 = 3 ∧ s113 98 14 = (σ2 98 16) ∧ s113 98 5 = σ2 98 5 ∧ s113 98 6 = σ2 98 6 ∧ s113 98 7 = σ2 98 7 ∧ s113 98 8 = σ2 98 8 ∧ s113 98 9 = σ2 98 9 ∧ s113 101 18 = σ2 101 18 ∧ s113 101 25 = σ2 101 25 ∧ s113 101 43 = σ2 101 43 ∧ s113 = h_up s111 98 14 (σ2 98 16)) => ?_))
        refine h_vret rfl rfl (h_Kn ?_)
        refine h_aload_n (pc' := 34) rfl rfl rfl ?_
        refine h_getR (pc' := 37) rfl rfl rfl rfl rfl ?_
        refine h_iload_n (pc' := 38) rfl rfl rfl ?_
        refine h_iconst (pc' := 39) (x := (Int32.ofInt 2)) rfl rfl rfl ?_
        refine h_iload_n (pc' := 40) rfl rfl rfl ?_
        refine h_imul (pc' := 41) rfl rfl ci_2 hy2 rfl (by omega) (by omega) (fun z114 hz114 => ?_)
        refine h_iadd (pc' := 42) rfl rfl ci_12 hz114 rfl (by omega) (by omega) (fun z115 hz115 => ?_)
        clear hz114
        refine h_iload_n (pc' := 43) rfl rfl rfl ?_
        refine h_iast (pc' := 44) rfl rfl rfl rfl hz115 (by omega) (by omega) hy3 (h_fgt (E := fun s => s 98 15 = σ2 98 15 ∧ s 98 16 = σ2 98 16 ∧ s 98 17 = σ2 98 17 ∧ s 98 18 = σ2 98 18 ∧ s 98 13 = 3 ∧ s 98 14 = (σ2 98 16) ∧ s 98 5 = σ2 98 5 ∧ s 98 6 = σ2 98 6 ∧ s 98 7 = σ2 98 7 ∧ s 98 8 = σ2 98 8 ∧ s 98 9 = σ2 98 9 ∧ s 101 18 = σ2 101 18 ∧ s 101 25 = σ2 101 25 ∧ s 101 43 = σ2 101 43 ∧ s = h_up s113 101 (12 + (2 * c2)) c3) _ (ip_101_2 Is113 (by omega) (by omega)) (Fs113.up rfl) ⟨es113.1, es113.2.1, es113.2.2.1, es113.2.2.2.1, es113.2.2.2.2.1, es113.2.2.2.2.2.1, es113.2.2.2.2.2.2.1, es113.2.2.2.2.2.2.2.1, es113.2.2.2.2.2.2.2.2.1, es113.2.2.2.2.2.2.2.2.2.1, es113.2.2.2.2.2.2.2.2.2.2.1, h_up_n2 (by omega) es113.2.2.2.2.2.2.2.2.2.2.2.1, h_up_n2 (by omega) es113.2.2.2.2.2.2.2.2.2.2.2.2.1, h_up_n2 (by omega) es113.2.2.2.2.2.2.2.2.2.2.2.2.2.1, rfl⟩ (fun s116 Is116 Fs116 (es116 : s116 98 15 = σ2 98 15 ∧ s116 98 16 = σ2 98 16 ∧ s116 98 17 = σ2 98 17 ∧ s116 98 18 = σ2 98 18 ∧ s116 98 13 = 3 ∧ s116 98 14 = (σ2 98 16) ∧ s116 98 5 = σ2 98 5 ∧ s116 98 6 = σ2 98 6 ∧ s116 98 7 = σ2 98 7 ∧ s116 98 8 = σ2 98 8 ∧ s116 98 9 = σ2 98 9 ∧ s116 101 18 = σ2 101 18 ∧ s116 101 25 = σ2 101 25 ∧ s116 101 43 = σ2 101 43 ∧ s116 = h_up s113 101 (12 + (2 * c2)) c3) => ?_))
        clear hz115
        refine h_aload_n (pc' := 45) rfl rfl rfl ?_
        refine h_getR (pc' := 48) rfl rfl rfl rfl rfl ?_
        refine h_iload_n (pc' := 49) rfl rfl rfl ?_
        refine h_iconst (pc' := 50) (x := (Int32.ofInt 2)) rfl rfl rfl ?_
        refine h_iload_n (pc' := 51) rfl rfl rfl ?_
        refine h_imul (pc' := 52) rfl rfl ci_2 hy2 rfl (by omega) (by omega) (fun z117 hz117 => ?_)
        refine h_iadd (pc' := 53) rfl rfl ci_12 hz117 rfl (by omega) (by omega) (fun z118 hz118 => ?_)
        clear hz117
        refine h_iconst (pc' := 54) (x := (Int32.ofInt 1)) rfl rfl rfl ?_
        refine h_iadd (pc' := 55) rfl rfl hz118 ci_1 rfl (by omega) (by omega) (fun z119 hz119 => ?_)
        clear hz118
        refine h_aload_n (pc' := 56) rfl rfl rfl ?_
        refine d_call (g_inj ns) (pc' := 59) (m := 150) (M := [(0, .ref 98)]) (rest := [.int z119, .ref 101]) ⟨false, _, _, _, _, _, _, rfl, rfl, rfl, rfl, rfl, rfl, rfl⟩ (fun lv120 hlv120 => ?_)
        refine h_aload_n (pc' := 1) rfl rfl rfl ?_
        refine h_iconst (pc' := 2) (x := (Int32.ofInt 0)) rfl rfl rfl ?_
        refine h_iconst (pc' := 3) (x := (Int32.ofInt 5)) rfl rfl rfl ?_
        refine h_call (sp := false) (pc' := 6) (M := [(0, .ref 98), (1, .int (Int32.ofInt 0)), (2, .int (Int32.ofInt 5))]) rfl rfl rfl rfl rfl rfl rfl rfl ?_
        refine h_aload_n (pc' := 1) rfl rfl rfl ?_
        refine h_getI (pc' := 4) (v := 3) rfl rfl rfl rfl rfl es116.2.2.2.2.1 (fun z121 hz121 => ?_)
        refine h_zne (tg := 20) (pc' := 7) rfl rfl rfl hz121 (fun c122 => ?_) (fun c122 => absurd c122 (by omega))
        clear hz121
        refine h_aload_n (pc' := 21) rfl rfl rfl ?_
        refine h_getI (pc' := 24) (v := 3) rfl rfl rfl rfl rfl es116.2.2.2.2.1 (fun z123 hz123 => ?_)
        refine h_zne (tg := 47) (pc' := 27) rfl rfl rfl hz123 (fun c124 => ?_) (fun c124 => absurd c124 (by omega))
        clear hz123
        refine h_aload_n (pc' := 48) rfl rfl rfl ?_
        refine h_getI (pc' := 51) (v := 3) rfl rfl rfl rfl rfl es116.2.2.2.2.1 (fun z125 hz125 => ?_)
        refine h_zne (tg := 61) (pc' := 54) rfl rfl rfl hz125 (fun c126 => ?_) (fun c126 => absurd c126 (by omega))
        clear hz125
        refine h_iload_n (pc' := 62) rfl rfl rfl ?_
        refine h_istore_n (pc' := 63) (M := [(3, .int (Int32.ofInt 0)), (0, .ref 98), (1, .int (Int32.ofInt 0)), (2, .int (Int32.ofInt 5))]) rfl rfl rfl rfl ?_
        refine h_aload_n (pc' := 64) rfl rfl rfl ?_
        refine h_call (sp := false) (pc' := 67) (M := [(0, .ref 98)]) rfl rfl rfl rfl rfl rfl rfl rfl ?_
        refine h_aload_n (pc' := 1) rfl rfl rfl ?_
        refine h_getI (pc' := 4) (v := 3) rfl rfl rfl rfl rfl es116.2.2.2.2.1 (fun z127 hz127 => ?_)
        refine h_zle (tg := 8) (pc' := 7) rfl rfl rfl hz127 (fun c128 => absurd c128 (by omega)) (fun c128 => ?_)
        clear hz127
        refine h_vret rfl rfl (h_Kn ?_)
        refine h_iload_n (pc' := 68) rfl rfl rfl ?_
        refine h_iret rfl rfl (h_Kv ?_)
        refine h_istore_n (pc' := 7) (M := [(1, .int (Int32.ofInt 0)), (0, .ref 98)]) rfl rfl rfl rfl ?_
        have oH129 : s116 98 8 = σ2 98 8 := es116.2.2.2.2.2.2.2.2.2.1
        have uH129 := tf_98_8 Is116
        refine lm_hi _ Is116 (Int32.ofInt 0) _ ci_0 (by omega) (fun H129 hH129 => (h_fgt (E := fun s => s 98 15 = σ2 98 15 ∧ s 98 16 = σ2 98 16 ∧ s 98 17 = σ2 98 17 ∧ s 98 18 = σ2 98 18 ∧ s 98 13 = 3 ∧ s 98 14 = (σ2 98 16) ∧ s 98 5 = σ2 98 5 ∧ s 98 6 = σ2 98 6 ∧ s 98 7 = σ2 98 7 ∧ s 98 8 = H129 ∧ s 98 9 = σ2 98 9 ∧ s 101 18 = σ2 101 18 ∧ s 101 25 = σ2 101 25 ∧ s 101 43 = σ2 101 43 ∧ s = h_up s116 98 8 H129) _ (if_98_8 Is116 (by omega)) (Fs116.up rfl) ⟨es116.1, es116.2.1, es116.2.2.1, es116.2.2.2.1, es116.2.2.2.2.1, es116.2.2.2.2.2.1, es116.2.2.2.2.2.2.1, es116.2.2.2.2.2.2.2.1, es116.2.2.2.2.2.2.2.2.1, rfl, es116.2.2.2.2.2.2.2.2.2.2.1, es116.2.2.2.2.2.2.2.2.2.2.2.1, es116.2.2.2.2.2.2.2.2.2.2.2.2.1, es116.2.2.2.2.2.2.2.2.2.2.2.2.2.1, rfl⟩ (fun s130 Is130 Fs130 (es130 : s130 98 15 = σ2 98 15 ∧ s130 98 16 = σ2 98 16 ∧ s130 98 17 = σ2 98 17 ∧ s130 98 18 = σ2 98 18 ∧ s130 98 13 = 3 ∧ s130 98 14 = (σ2 98 16) ∧ s130 98 5 = σ2 98 5 ∧ s130 98 6 = σ2 98 6 ∧ s130 98 7 = σ2 98 7 ∧ s130 98 8 = H129 ∧ s130 98 9 = σ2 98 9 ∧ s130 101 18 = σ2 101 18 ∧ s130 101 25 = σ2 101 25 ∧ s130 101 43 = σ2 101 43 ∧ s130 = h_up s116 98 8 H129) => ?_)))
        refine h_iload_n (pc' := 28) rfl rfl rfl ?_
        refine h_iret rfl rfl (d_ret hlv120 ?_)
        refine h_iast (pc' := 60) rfl rfl rfl rfl hz119 (by omega) (by omega) ci_0 (h_fgt (E := fun s => s 98 15 = σ2 98 15 ∧ s 98 16 = σ2 98 16 ∧ s 98 17 = σ2 98 17 ∧ s 98 18 = σ2 98 18 ∧ s 98 13 = 3 ∧ s 98 14 = (σ2 98 16) ∧ s 98 5 = σ2 98 5 ∧ s 98 6 = σ2 98 6 ∧ s 98 7 = σ2 98 7 ∧ s 98 8 = H129 ∧ s 98 9 = σ2 98 9 ∧ s 101 18 = σ2 101 18 ∧ s 101 25 = σ2 101 25 ∧ s 101 43 = σ2 101 43 ∧ s = h_up s130 101 ((12 + (2 * c2)) + 1) 0) _ (ip_101_2 Is130 (by omega) (by omega)) (Fs130.up rfl) ⟨es130.1, es130.2.1, es130.2.2.1, es130.2.2.2.1, es130.2.2.2.2.1, es130.2.2.2.2.2.1, es130.2.2.2.2.2.2.1, es130.2.2.2.2.2.2.2.1, es130.2.2.2.2.2.2.2.2.1, es130.2.2.2.2.2.2.2.2.2.1, es130.2.2.2.2.2.2.2.2.2.2.1, h_up_n2 (by omega) es130.2.2.2.2.2.2.2.2.2.2.2.1, h_up_n2 (by omega) es130.2.2.2.2.2.2.2.2.2.2.2.2.1, h_up_n2 (by omega) es130.2.2.2.2.2.2.2.2.2.2.2.2.2.1, rfl⟩ (fun s131 Is131 Fs131 (es131 : s131 98 15 = σ2 98 15 ∧ s131 98 16 = σ2 98 16 ∧ s131 98 17 = σ2 98 17 ∧ s131 98 18 = σ2 98 18 ∧ s131 98 13 = 3 ∧ s131 98 14 = (σ2 98 16) ∧ s131 98 5 = σ2 98 5 ∧ s131 98 6 = σ2 98 6 ∧ s131 98 7 = σ2 98 7 ∧ s131 98 8 = H129 ∧ s131 98 9 = σ2 98 9 ∧ s131 101 18 = σ2 101 18 ∧ s131 101 25 = σ2 101 25 ∧ s131 101 43 = σ2 101 43 ∧ s131 = h_up s130 101 ((12 + (2 * c2)) + 1) 0) => ?_))
        clear hz119
        refine h_aload_n (pc' := 61) rfl rfl rfl ?_
        refine h_getR (pc' := 64) rfl rfl rfl rfl rfl ?_
        refine h_iload_n (pc' := 65) rfl rfl rfl ?_
        refine h_bipush (pc' := 67) (x := (Int32.ofInt 6)) rfl rfl cb_6 ?_
        refine h_iadd (pc' := 68) (c := 18) rfl rfl ci_12 ci_6 rfl (by omega) (by omega) (fun z132 hz132 => ?_)
        refine h_dup2 (pc' := 69) rfl rfl rfl ?_
        refine h_iald (pc' := 70) (v := σ2 101 18) rfl rfl rfl hz132 (by omega) (by omega) es131.2.2.2.2.2.2.2.2.2.2.2.1 (fun z133 hz133 => ?_)
        have tz133 := ty_101_3 hI2 18 (by omega)
        refine h_iconst (pc' := 71) (x := (Int32.ofInt 1)) rfl rfl rfl ?_
        refine h_iadd (pc' := 72) rfl rfl hz133 ci_1 rfl (by omega) (by omega) (fun z134 hz134 => ?_)
        clear hz133
        refine h_iast (pc' := 73) rfl rfl rfl rfl hz132 (by omega) (by omega) hz134 (h_fgt (E := fun s => s 98 15 = σ2 98 15 ∧ s 98 16 = σ2 98 16 ∧ s 98 17 = σ2 98 17 ∧ s 98 18 = σ2 98 18 ∧ s 98 13 = 3 ∧ s 98 14 = (σ2 98 16) ∧ s 98 5 = σ2 98 5 ∧ s 98 6 = σ2 98 6 ∧ s 98 7 = σ2 98 7 ∧ s 98 8 = H129 ∧ s 98 9 = σ2 98 9 ∧ s 101 18 = ((σ2 101 18) + 1) ∧ s 101 25 = σ2 101 25 ∧ s 101 43 = σ2 101 43 ∧ s = h_up s131 101 18 ((σ2 101 18) + 1)) _ (ip_101_3 Is131 (by omega) (by omega)) (Fs131.up rfl) ⟨es131.1, es131.2.1, es131.2.2.1, es131.2.2.2.1, es131.2.2.2.2.1, es131.2.2.2.2.2.1, es131.2.2.2.2.2.2.1, es131.2.2.2.2.2.2.2.1, es131.2.2.2.2.2.2.2.2.1, es131.2.2.2.2.2.2.2.2.2.1, es131.2.2.2.2.2.2.2.2.2.2.1, rfl, es131.2.2.2.2.2.2.2.2.2.2.2.2.1, es131.2.2.2.2.2.2.2.2.2.2.2.2.2.1, rfl⟩ (fun s135 Is135 Fs135 (es135 : s135 98 15 = σ2 98 15 ∧ s135 98 16 = σ2 98 16 ∧ s135 98 17 = σ2 98 17 ∧ s135 98 18 = σ2 98 18 ∧ s135 98 13 = 3 ∧ s135 98 14 = (σ2 98 16) ∧ s135 98 5 = σ2 98 5 ∧ s135 98 6 = σ2 98 6 ∧ s135 98 7 = σ2 98 7 ∧ s135 98 8 = H129 ∧ s135 98 9 = σ2 98 9 ∧ s135 101 18 = ((σ2 101 18) + 1) ∧ s135 101 25 = σ2 101 25 ∧ s135 101 43 = σ2 101 43 ∧ s135 = h_up s131 101 18 ((σ2 101 18) + 1)) => ?_))
        clear hz132
        exfalso
        omega
    · clear hz62
      refine h_aload_n (pc' := 33) rfl rfl rfl ?_
      refine h_iconst (pc' := 34) (x := (Int32.ofInt 3)) rfl rfl rfl ?_
      refine h_aload_n (pc' := 35) rfl rfl rfl ?_
      refine h_getR (pc' := 38) rfl rfl rfl rfl rfl ?_
      refine h_getI (pc' := 41) (v := σ1 64 4) rfl rfl rfl rfl rfl rfl (fun z136 hz136 => ?_)
      have tz136 := tf_64_4 hI1
      refine h_call (sp := false) (pc' := 44) (M := [(0, .ref 63), (1, .int (Int32.ofInt 3)), (2, .int z136)]) rfl rfl rfl rfl rfl rfl rfl rfl ?_
      refine h_aload_n (pc' := 1) rfl rfl rfl ?_
      refine h_getI (pc' := 4) (v := σ1 63 2) rfl rfl rfl rfl rfl rfl (fun z137 hz137 => ?_)
      refine h_zne (tg := 17) (pc' := 7) rfl rfl rfl hz137 (fun c138 => absurd c138 (by omega)) (fun c138 => ?_)
      clear hz137
      refine h_aload_n (pc' := 8) rfl rfl rfl ?_
      refine h_iload_n (pc' := 9) rfl rfl rfl ?_
      refine h_put (pc' := 12) rfl rfl rfl rfl rfl rfl ci_3 rfl (h_fgt (E := fun s => s 64 2 = σ1 64 2 ∧ s 64 4 = σ1 64 4 ∧ s 64 3 = σ1 64 3 ∧ s 64 5 = σ1 64 5 ∧ s 63 2 = 3 ∧ s 63 3 = σ1 63 3 ∧ s 64 1 = σ1 64 1 ∧ s 66 8 = σ1 66 8 ∧ s 66 9 = σ1 66 9 ∧ s 66 10 = σ1 66 10 ∧ s 69 2 = σ1 69 2 ∧ s 72 2 = σ1 72 2 ∧ s 63 5 = σ1 63 5 ∧ s = h_up σ1 63 2 3) _ (if_63_2 hI1 (by omega)) (F1.up rfl) ⟨rfl, rfl, rfl, rfl, rfl, rfl, rfl, rfl, rfl, rfl, rfl, rfl, rfl, rfl⟩ (fun s139 Is139 Fs139 (es139 : s139 64 2 = σ1 64 2 ∧ s139 64 4 = σ1 64 4 ∧ s139 64 3 = σ1 64 3 ∧ s139 64 5 = σ1 64 5 ∧ s139 63 2 = 3 ∧ s139 63 3 = σ1 63 3 ∧ s139 64 1 = σ1 64 1 ∧ s139 66 8 = σ1 66 8 ∧ s139 66 9 = σ1 66 9 ∧ s139 66 10 = σ1 66 10 ∧ s139 69 2 = σ1 69 2 ∧ s139 72 2 = σ1 72 2 ∧ s139 63 5 = σ1 63 5 ∧ s139 = h_up σ1 63 2 3) => ?_))
      refine h_aload_n (pc' := 13) rfl rfl rfl ?_
      refine h_iload_n (pc' := 14) rfl rfl rfl ?_
      refine h_put (pc' := 17) rfl rfl rfl rfl rfl rfl hz136 rfl (h_fgt (E := fun s => s 64 2 = σ1 64 2 ∧ s 64 4 = σ1 64 4 ∧ s 64 3 = σ1 64 3 ∧ s 64 5 = σ1 64 5 ∧ s 63 2 = 3 ∧ s 63 3 = (σ1 64 4) ∧ s 64 1 = σ1 64 1 ∧ s 66 8 = σ1 66 8 ∧ s 66 9 = σ1 66 9 ∧ s 66 10 = σ1 66 10 ∧ s 69 2 = σ1 69 2 ∧ s 72 2 = σ1 72 2 ∧ s 63 5 = σ1 63 5 ∧ s = h_up s139 63 3 (σ1 64 4)) _ (if_63_3 Is139 (h_rgv hz136)) (Fs139.up rfl) ⟨es139.1, es139.2.1, es139.2.2.1, es139.2.2.2.1, es139.2.2.2.2.1, rfl, es139.2.2.2.2.2.2.1, es139.2.2.2.2.2.2.2.1, es139.2.2.2.2.2.2.2.2.1, es139.2.2.2.2.2.2.2.2.2.1, es139.2.2.2.2.2.2.2.2.2.2.1, es139.2.2.2.2.2.2.2.2.2.2.2.1, es139.2.2.2.2.2.2.2.2.2.2.2.2.1, rfl⟩ (fun s140 Is140 Fs140 (es140 : s140 64 2 = σ1 64 2 ∧ s140 64 4 = σ1 64 4 ∧ s140 64 3 = σ1 64 3 ∧ s140 64 5 = σ1 64 5 ∧ s140 63 2 = 3 ∧ s140 63 3 = (σ1 64 4) ∧ s140 64 1 = σ1 64 1 ∧ s140 66 8 = σ1 66 8 ∧ s140 66 9 = σ1 66 9 ∧ s140 66 10 = σ1 66 10 ∧ s140 69 2 = σ1 69 2 ∧ s140 72 2 = σ1 72 2 ∧ s140 63 5 = σ1 63 5 ∧ s140 = h_up s139 63 3 (σ1 64 4)) => ?_))
      refine h_vret rfl rfl (h_Kn ?_)
      refine h_aload_n (pc' := 45) rfl rfl rfl ?_
      refine h_iconst (pc' := 46) (x := (Int32.ofInt 5)) rfl rfl rfl ?_
      refine h_call (sp := false) (pc' := 49) (M := [(0, .ref 63), (1, .int (Int32.ofInt 5))]) rfl rfl rfl rfl rfl rfl rfl rfl ?_
      refine h_aload_n (pc' := 1) rfl rfl rfl ?_
      refine h_getI (pc' := 4) (v := 3) rfl rfl rfl rfl rfl es140.2.2.2.2.1 (fun z141 hz141 => ?_)
      refine h_zne (tg := 30) (pc' := 7) rfl rfl rfl hz141 (fun c142 => ?_) (fun c142 => absurd c142 (by omega))
      clear hz141
      refine h_aload_n (pc' := 31) rfl rfl rfl ?_
      refine h_getI (pc' := 34) (v := 3) rfl rfl rfl rfl rfl es140.2.2.2.2.1 (fun z143 hz143 => ?_)
      refine h_zne (tg := 60) (pc' := 37) rfl rfl rfl hz143 (fun c144 => ?_) (fun c144 => absurd c144 (by omega))
      clear hz143
      refine h_aload_n (pc' := 61) rfl rfl rfl ?_
      refine h_getR (pc' := 64) rfl rfl rfl rfl rfl ?_
      refine h_getI (pc' := 67) (v := σ1 64 5) rfl rfl rfl rfl rfl es140.2.2.2.1 (fun z145 hz145 => ?_)
      refine h_istore_n (pc' := 68) (M := [(2, .int z145), (0, .ref 63), (1, .int (Int32.ofInt 5))]) rfl rfl rfl rfl ?_
      refine h_aload_n (pc' := 69) rfl rfl rfl ?_
      refine h_call (sp := false) (pc' := 72) (M := [(0, .ref 63)]) rfl rfl rfl rfl rfl rfl rfl rfl ?_
      refine h_aload_n (pc' := 1) rfl rfl rfl ?_
      refine h_getI (pc' := 4) (v := 3) rfl rfl rfl rfl rfl es140.2.2.2.2.1 (fun z146 hz146 => ?_)
      refine h_zne (tg := 37) (pc' := 7) rfl rfl rfl hz146 (fun c147 => ?_) (fun c147 => absurd c147 (by omega))
      clear hz146
      refine h_vret rfl rfl (h_Kn ?_)
      refine h_iload_n (pc' := 73) rfl rfl rfl ?_
      refine h_iret rfl rfl (h_Kv ?_)
      refine h_istore_n (pc' := 50) (M := [(3, .int z145), (0, .ref 63), (1, .ref 69), (2, .int x2)]) rfl rfl rfl rfl ?_
      refine h_aload_n (pc' := 51) rfl rfl rfl ?_
      refine h_getI (pc' := 54) (v := 3) rfl rfl rfl rfl rfl es140.2.2.2.2.1 (fun z148 hz148 => ?_)
      refine h_zne (tg := 64) (pc' := 57) rfl rfl rfl hz148 (fun c149 => ?_) (fun c149 => absurd c149 (by omega))
      clear hz148
      refine d_toM (g_inj ns) hl2 hR2 (fun lvw150 memw150 hlw150 hRw150 => ?_)
      show h_T g_P (g_Y ns) 151 5 [(0, .ref 98), (1, .int (Int32.ofInt 12)), (2, .int y2), (3, .int y3)] [] σ2 _
      refine h_aload_n (pc' := 6) rfl rfl rfl ?_
      refine h_getI (pc' := 9) (v := σ2 98 13) rfl rfl rfl rfl rfl rfl (fun z151 hz151 => ?_)
      have tz151 := tf_98_13 hI2
      refine h_zne (tg := 33) (pc' := 12) rfl rfl rfl hz151 (fun c152 => absurd c152 (by omega)) (fun c152 => ?_)
      clear hz151
      refine h_aload_n (pc' := 13) rfl rfl rfl ?_
      refine h_getI (pc' := 16) (v := σ2 98 17) rfl rfl rfl rfl rfl rfl (fun z153 hz153 => ?_)
      have tz153 := tf_98_17 hI2
      refine h_iconst (pc' := 17) (x := (Int32.ofInt 2)) rfl rfl rfl ?_
      refine h_cne (tg := 33) (pc' := 20) rfl rfl rfl hz153 ci_2 (fun c154 => absurd c154 (by omega)) (fun c154 => ?_)
      clear hz153
      refine h_aload_n (pc' := 21) rfl rfl rfl ?_
      refine h_getI (pc' := 24) (v := σ2 98 18) rfl rfl rfl rfl rfl rfl (fun z155 hz155 => ?_)
      have tz155 := tf_98_18 hI2
      refine h_iload_n (pc' := 25) rfl rfl rfl ?_
      refine h_cne (tg := 33) (pc' := 28) rfl rfl rfl hz155 hy3 (fun c156 => ?_) (fun c156 => ?_)
      · clear hz155
        refine h_aload_n (pc' := 34) rfl rfl rfl ?_
        refine h_getR (pc' := 37) rfl rfl rfl rfl rfl ?_
        refine h_iload_n (pc' := 38) rfl rfl rfl ?_
        refine h_iconst (pc' := 39) (x := (Int32.ofInt 2)) rfl rfl rfl ?_
        refine h_iload_n (pc' := 40) rfl rfl rfl ?_
        refine h_imul (pc' := 41) rfl rfl ci_2 hy2 rfl (by omega) (by omega) (fun z157 hz157 => ?_)
        refine h_iadd (pc' := 42) rfl rfl ci_12 hz157 rfl (by omega) (by omega) (fun z158 hz158 => ?_)
        clear hz157
        refine h_iload_n (pc' := 43) rfl rfl rfl ?_
        refine h_iast (pc' := 44) rfl rfl rfl rfl hz158 (by omega) (by omega) hy3 (h_fgt (E := fun s => s 98 15 = σ2 98 15 ∧ s 98 16 = σ2 98 16 ∧ s 98 17 = σ2 98 17 ∧ s 98 18 = σ2 98 18 ∧ s 98 13 = σ2 98 13 ∧ s 98 14 = σ2 98 14 ∧ s 98 5 = σ2 98 5 ∧ s 98 6 = σ2 98 6 ∧ s 98 7 = σ2 98 7 ∧ s 98 8 = σ2 98 8 ∧ s 98 9 = σ2 98 9 ∧ s 101 18 = σ2 101 18 ∧ s 101 25 = σ2 101 25 ∧ s 101 43 = σ2 101 43 ∧ s = h_up σ2 101 (12 + (2 * c2)) c3) _ (ip_101_2 hI2 (by omega) (by omega)) (F2.up rfl) ⟨rfl, rfl, rfl, rfl, rfl, rfl, rfl, rfl, rfl, rfl, rfl, h_up_n2 (by omega) rfl, h_up_n2 (by omega) rfl, h_up_n2 (by omega) rfl, rfl⟩ (fun s159 Is159 Fs159 (es159 : s159 98 15 = σ2 98 15 ∧ s159 98 16 = σ2 98 16 ∧ s159 98 17 = σ2 98 17 ∧ s159 98 18 = σ2 98 18 ∧ s159 98 13 = σ2 98 13 ∧ s159 98 14 = σ2 98 14 ∧ s159 98 5 = σ2 98 5 ∧ s159 98 6 = σ2 98 6 ∧ s159 98 7 = σ2 98 7 ∧ s159 98 8 = σ2 98 8 ∧ s159 98 9 = σ2 98 9 ∧ s159 101 18 = σ2 101 18 ∧ s159 101 25 = σ2 101 25 ∧ s159 101 43 = σ2 101 43 ∧ s159 = h_up σ2 101 (12 + (2 * c2)) c3) => ?_))
        clear hz158
        refine h_aload_n (pc' := 45) rfl rfl rfl ?_
        refine h_getR (pc' := 48) rfl rfl rfl rfl rfl ?_
        refine h_iload_n (pc' := 49) rfl rfl rfl ?_
        refine h_iconst (pc' := 50) (x := (Int32.ofInt 2)) rfl rfl rfl ?_
        refine h_iload_n (pc' := 51) rfl rfl rfl ?_
        refine h_imul (pc' := 52) rfl rfl ci_2 hy2 rfl (by omega) (by omega) (fun z160 hz160 => ?_)
        refine h_iadd (pc' := 53) rfl rfl ci_12 hz160 rfl (by omega) (by omega) (fun z161 hz161 => ?_)
        clear hz160
        refine h_iconst (pc' := 54) (x := (Int32.ofInt 1)) rfl rfl rfl ?_
        refine h_iadd (pc' := 55) rfl rfl hz161 ci_1 rfl (by omega) (by omega) (fun z162 hz162 => ?_)
        clear hz161
        refine h_aload_n (pc' := 56) rfl rfl rfl ?_
        refine d_call (g_inj ns) (pc' := 59) (m := 150) (M := [(0, .ref 98)]) (rest := [.int z162, .ref 101]) ⟨false, _, _, _, _, _, _, rfl, rfl, rfl, rfl, rfl, rfl, rfl⟩ (fun lv163 hlv163 => ?_)
        refine h_aload_n (pc' := 1) rfl rfl rfl ?_
        refine h_iconst (pc' := 2) (x := (Int32.ofInt 0)) rfl rfl rfl ?_
        refine h_iconst (pc' := 3) (x := (Int32.ofInt 5)) rfl rfl rfl ?_
        exfalso
        omega
      · clear hz155
        refine h_aload_n (pc' := 29) rfl rfl rfl ?_
        refine h_iconst (pc' := 30) (x := (Int32.ofInt 3)) rfl rfl rfl ?_
        refine h_call (sp := false) (pc' := 33) (M := [(0, .ref 98), (1, .int (Int32.ofInt 3))]) rfl rfl rfl rfl rfl rfl rfl rfl ?_
        refine h_aload_n (pc' := 1) rfl rfl rfl ?_
        refine h_getI (pc' := 4) (v := σ2 98 13) rfl rfl rfl rfl rfl rfl (fun z164 hz164 => ?_)
        refine h_zne (tg := 20) (pc' := 7) rfl rfl rfl hz164 (fun c165 => absurd c165 (by omega)) (fun c165 => ?_)
        clear hz164
        refine h_aload_n (pc' := 8) rfl rfl rfl ?_
        refine h_iload_n (pc' := 9) rfl rfl rfl ?_
        refine h_put (pc' := 12) rfl rfl rfl rfl rfl rfl ci_3 rfl (h_fgt (E := fun s => s 98 15 = σ2 98 15 ∧ s 98 16 = σ2 98 16 ∧ s 98 17 = σ2 98 17 ∧ s 98 18 = σ2 98 18 ∧ s 98 13 = 3 ∧ s 98 14 = σ2 98 14 ∧ s 98 5 = σ2 98 5 ∧ s 98 6 = σ2 98 6 ∧ s 98 7 = σ2 98 7 ∧ s 98 8 = σ2 98 8 ∧ s 98 9 = σ2 98 9 ∧ s 101 18 = σ2 101 18 ∧ s 101 25 = σ2 101 25 ∧ s 101 43 = σ2 101 43 ∧ s = h_up σ2 98 13 3) _ (if_98_13 hI2 (by omega)) (F2.up rfl) ⟨rfl, rfl, rfl, rfl, rfl, rfl, rfl, rfl, rfl, rfl, rfl, rfl, rfl, rfl, rfl⟩ (fun s166 Is166 Fs166 (es166 : s166 98 15 = σ2 98 15 ∧ s166 98 16 = σ2 98 16 ∧ s166 98 17 = σ2 98 17 ∧ s166 98 18 = σ2 98 18 ∧ s166 98 13 = 3 ∧ s166 98 14 = σ2 98 14 ∧ s166 98 5 = σ2 98 5 ∧ s166 98 6 = σ2 98 6 ∧ s166 98 7 = σ2 98 7 ∧ s166 98 8 = σ2 98 8 ∧ s166 98 9 = σ2 98 9 ∧ s166 101 18 = σ2 101 18 ∧ s166 101 25 = σ2 101 25 ∧ s166 101 43 = σ2 101 43 ∧ s166 = h_up σ2 98 13 3) => ?_))
        refine h_aload_n (pc' := 13) rfl rfl rfl ?_
        refine h_aload_n (pc' := 14) rfl rfl rfl ?_
        refine h_getI (pc' := 17) (v := σ2 98 16) rfl rfl rfl rfl rfl es166.2.1 (fun z167 hz167 => ?_)
        have tz167 := tf_98_16 hI2
        refine h_put (pc' := 20) rfl rfl rfl rfl rfl rfl hz167 rfl (h_fgt (E := fun s => s 98 15 = σ2 98 15 ∧ s 98 16 = σ2 98 16 ∧ s 98 17 = σ2 98 17 ∧ s 98 18 = σ2 98 18 ∧ s 98 13 = 3 ∧ s 98 14 = (σ2 98 16) ∧ s 98 5 = σ2 98 5 ∧ s 98 6 = σ2 98 6 ∧ s 98 7 = σ2 98 7 ∧ s 98 8 = σ2 98 8 ∧ s 98 9 = σ2 98 9 ∧ s 101 18 = σ2 101 18 ∧ s 101 25 = σ2 101 25 ∧ s 101 43 = σ2 101 43 ∧ s = h_up s166 98 14 (σ2 98 16)) _ (if_98_14 Is166 (h_rgv hz167)) (Fs166.up rfl) ⟨es166.1, es166.2.1, es166.2.2.1, es166.2.2.2.1, es166.2.2.2.2.1, rfl, es166.2.2.2.2.2.2.1, es166.2.2.2.2.2.2.2.1, es166.2.2.2.2.2.2.2.2.1, es166.2.2.2.2.2.2.2.2.2.1, es166.2.2.2.2.2.2.2.2.2.2.1, es166.2.2.2.2.2.2.2.2.2.2.2.1, es166.2.2.2.2.2.2.2.2.2.2.2.2.1, es166.2.2.2.2.2.2.2.2.2.2.2.2.2.1, rfl⟩ (fun s168 Is168 Fs168 (es168 : s168 98 15 = σ2 98 15 ∧ s168 98 16 = σ2 98 16 ∧ s168 98 17 = σ2 98 17 ∧ s168 98 18 = σ2 98 18 ∧ s168 98 13 = 3 ∧ s168 98 14 = (σ2 98 16) ∧ s168 98 5 = σ2 98 5 ∧ s168 98 6 = σ2 98 6 ∧ s168 98 7 = σ2 98 7 ∧ s168 98 8 = σ2 98 8 ∧ s168 98 9 = σ2 98 9 ∧ s168 101 18 = σ2 101 18 ∧ s168 101 25 = σ2 101 25 ∧ s168 101 43 = σ2 101 43 ∧ s168 = h_up s166 98 14 (σ2 98 16)) => ?_))
        refine h_vret rfl rfl (h_Kn ?_)
        refine h_aload_n (pc' := 34) rfl rfl rfl ?_
        refine h_getR (pc' := 37) rfl rfl rfl rfl rfl ?_
        refine h_iload_n (pc' := 38) rfl rfl rfl ?_
        refine h_iconst (pc' := 39) (x := (Int32.ofInt 2)) rfl rfl rfl ?_
        refine h_iload_n (pc' := 40) rfl rfl rfl ?_
        refine h_imul (pc' := 41) rfl rfl ci_2 hy2 rfl (by omega) (by omega) (fun z169 hz169 => ?_)
        refine h_iadd (pc' := 42) rfl rfl ci_12 hz169 rfl (by omega) (by omega) (fun z170 hz170 => ?_)
        clear hz169
        refine h_iload_n (pc' := 43) rfl rfl rfl ?_
        refine h_iast (pc' := 44) rfl rfl rfl rfl hz170 (by omega) (by omega) hy3 (h_fgt (E := fun s => s 98 15 = σ2 98 15 ∧ s 98 16 = σ2 98 16 ∧ s 98 17 = σ2 98 17 ∧ s 98 18 = σ2 98 18 ∧ s 98 13 = 3 ∧ s 98 14 = (σ2 98 16) ∧ s 98 5 = σ2 98 5 ∧ s 98 6 = σ2 98 6 ∧ s 98 7 = σ2 98 7 ∧ s 98 8 = σ2 98 8 ∧ s 98 9 = σ2 98 9 ∧ s 101 18 = σ2 101 18 ∧ s 101 25 = σ2 101 25 ∧ s 101 43 = σ2 101 43 ∧ s = h_up s168 101 (12 + (2 * c2)) c3) _ (ip_101_2 Is168 (by omega) (by omega)) (Fs168.up rfl) ⟨es168.1, es168.2.1, es168.2.2.1, es168.2.2.2.1, es168.2.2.2.2.1, es168.2.2.2.2.2.1, es168.2.2.2.2.2.2.1, es168.2.2.2.2.2.2.2.1, es168.2.2.2.2.2.2.2.2.1, es168.2.2.2.2.2.2.2.2.2.1, es168.2.2.2.2.2.2.2.2.2.2.1, h_up_n2 (by omega) es168.2.2.2.2.2.2.2.2.2.2.2.1, h_up_n2 (by omega) es168.2.2.2.2.2.2.2.2.2.2.2.2.1, h_up_n2 (by omega) es168.2.2.2.2.2.2.2.2.2.2.2.2.2.1, rfl⟩ (fun s171 Is171 Fs171 (es171 : s171 98 15 = σ2 98 15 ∧ s171 98 16 = σ2 98 16 ∧ s171 98 17 = σ2 98 17 ∧ s171 98 18 = σ2 98 18 ∧ s171 98 13 = 3 ∧ s171 98 14 = (σ2 98 16) ∧ s171 98 5 = σ2 98 5 ∧ s171 98 6 = σ2 98 6 ∧ s171 98 7 = σ2 98 7 ∧ s171 98 8 = σ2 98 8 ∧ s171 98 9 = σ2 98 9 ∧ s171 101 18 = σ2 101 18 ∧ s171 101 25 = σ2 101 25 ∧ s171 101 43 = σ2 101 43 ∧ s171 = h_up s168 101 (12 + (2 * c2)) c3) => ?_))
        clear hz170
        refine h_aload_n (pc' := 45) rfl rfl rfl ?_
        refine h_getR (pc' := 48) rfl rfl rfl rfl rfl ?_
        refine h_iload_n (pc' := 49) rfl rfl rfl ?_
        refine h_iconst (pc' := 50) (x := (Int32.ofInt 2)) rfl rfl rfl ?_
        refine h_iload_n (pc' := 51) rfl rfl rfl ?_
        refine h_imul (pc' := 52) rfl rfl ci_2 hy2 rfl (by omega) (by omega) (fun z172 hz172 => ?_)
        refine h_iadd (pc' := 53) rfl rfl ci_12 hz172 rfl (by omega) (by omega) (fun z173 hz173 => ?_)
        clear hz172
        refine h_iconst (pc' := 54) (x := (Int32.ofInt 1)) rfl rfl rfl ?_
        refine h_iadd (pc' := 55) rfl rfl hz173 ci_1 rfl (by omega) (by omega) (fun z174 hz174 => ?_)
        clear hz173
        refine h_aload_n (pc' := 56) rfl rfl rfl ?_
        refine d_call (g_inj ns) (pc' := 59) (m := 150) (M := [(0, .ref 98)]) (rest := [.int z174, .ref 101]) ⟨false, _, _, _, _, _, _, rfl, rfl, rfl, rfl, rfl, rfl, rfl⟩ (fun lv175 hlv175 => ?_)
        refine h_aload_n (pc' := 1) rfl rfl rfl ?_
        refine h_iconst (pc' := 2) (x := (Int32.ofInt 0)) rfl rfl rfl ?_
        refine h_iconst (pc' := 3) (x := (Int32.ofInt 5)) rfl rfl rfl ?_
        refine h_call (sp := false) (pc' := 6) (M := [(0, .ref 98), (1, .int (Int32.ofInt 0)), (2, .int (Int32.ofInt 5))]) rfl rfl rfl rfl rfl rfl rfl rfl ?_
        refine h_aload_n (pc' := 1) rfl rfl rfl ?_
        refine h_getI (pc' := 4) (v := 3) rfl rfl rfl rfl rfl es171.2.2.2.2.1 (fun z176 hz176 => ?_)
        refine h_zne (tg := 20) (pc' := 7) rfl rfl rfl hz176 (fun c177 => ?_) (fun c177 => absurd c177 (by omega))
        clear hz176
        refine h_aload_n (pc' := 21) rfl rfl rfl ?_
        refine h_getI (pc' := 24) (v := 3) rfl rfl rfl rfl rfl es171.2.2.2.2.1 (fun z178 hz178 => ?_)
        refine h_zne (tg := 47) (pc' := 27) rfl rfl rfl hz178 (fun c179 => ?_) (fun c179 => absurd c179 (by omega))
        clear hz178
        refine h_aload_n (pc' := 48) rfl rfl rfl ?_
        refine h_getI (pc' := 51) (v := 3) rfl rfl rfl rfl rfl es171.2.2.2.2.1 (fun z180 hz180 => ?_)
        refine h_zne (tg := 61) (pc' := 54) rfl rfl rfl hz180 (fun c181 => ?_) (fun c181 => absurd c181 (by omega))
        clear hz180
        refine h_iload_n (pc' := 62) rfl rfl rfl ?_
        refine h_istore_n (pc' := 63) (M := [(3, .int (Int32.ofInt 0)), (0, .ref 98), (1, .int (Int32.ofInt 0)), (2, .int (Int32.ofInt 5))]) rfl rfl rfl rfl ?_
        refine h_aload_n (pc' := 64) rfl rfl rfl ?_
        refine h_call (sp := false) (pc' := 67) (M := [(0, .ref 98)]) rfl rfl rfl rfl rfl rfl rfl rfl ?_
        refine h_aload_n (pc' := 1) rfl rfl rfl ?_
        refine h_getI (pc' := 4) (v := 3) rfl rfl rfl rfl rfl es171.2.2.2.2.1 (fun z182 hz182 => ?_)
        refine h_zle (tg := 8) (pc' := 7) rfl rfl rfl hz182 (fun c183 => absurd c183 (by omega)) (fun c183 => ?_)
        clear hz182
        refine h_vret rfl rfl (h_Kn ?_)
        refine h_iload_n (pc' := 68) rfl rfl rfl ?_
        refine h_iret rfl rfl (h_Kv ?_)
        refine h_istore_n (pc' := 7) (M := [(1, .int (Int32.ofInt 0)), (0, .ref 98)]) rfl rfl rfl rfl ?_
        have oH184 : s171 98 8 = σ2 98 8 := es171.2.2.2.2.2.2.2.2.2.1
        have uH184 := tf_98_8 Is171
        refine lm_hi _ Is171 (Int32.ofInt 0) _ ci_0 (by omega) (fun H184 hH184 => (h_fgt (E := fun s => s 98 15 = σ2 98 15 ∧ s 98 16 = σ2 98 16 ∧ s 98 17 = σ2 98 17 ∧ s 98 18 = σ2 98 18 ∧ s 98 13 = 3 ∧ s 98 14 = (σ2 98 16) ∧ s 98 5 = σ2 98 5 ∧ s 98 6 = σ2 98 6 ∧ s 98 7 = σ2 98 7 ∧ s 98 8 = H184 ∧ s 98 9 = σ2 98 9 ∧ s 101 18 = σ2 101 18 ∧ s 101 25 = σ2 101 25 ∧ s 101 43 = σ2 101 43 ∧ s = h_up s171 98 8 H184) _ (if_98_8 Is171 (by omega)) (Fs171.up rfl) ⟨es171.1, es171.2.1, es171.2.2.1, es171.2.2.2.1, es171.2.2.2.2.1, es171.2.2.2.2.2.1, es171.2.2.2.2.2.2.1, es171.2.2.2.2.2.2.2.1, es171.2.2.2.2.2.2.2.2.1, rfl, es171.2.2.2.2.2.2.2.2.2.2.1, es171.2.2.2.2.2.2.2.2.2.2.2.1, es171.2.2.2.2.2.2.2.2.2.2.2.2.1, es171.2.2.2.2.2.2.2.2.2.2.2.2.2.1, rfl⟩ (fun s185 Is185 Fs185 (es185 : s185 98 15 = σ2 98 15 ∧ s185 98 16 = σ2 98 16 ∧ s185 98 17 = σ2 98 17 ∧ s185 98 18 = σ2 98 18 ∧ s185 98 13 = 3 ∧ s185 98 14 = (σ2 98 16) ∧ s185 98 5 = σ2 98 5 ∧ s185 98 6 = σ2 98 6 ∧ s185 98 7 = σ2 98 7 ∧ s185 98 8 = H184 ∧ s185 98 9 = σ2 98 9 ∧ s185 101 18 = σ2 101 18 ∧ s185 101 25 = σ2 101 25 ∧ s185 101 43 = σ2 101 43 ∧ s185 = h_up s171 98 8 H184) => ?_)))
        refine h_iload_n (pc' := 28) rfl rfl rfl ?_
        refine h_iret rfl rfl (d_ret hlv175 ?_)
        refine h_iast (pc' := 60) rfl rfl rfl rfl hz174 (by omega) (by omega) ci_0 (h_fgt (E := fun s => s 98 15 = σ2 98 15 ∧ s 98 16 = σ2 98 16 ∧ s 98 17 = σ2 98 17 ∧ s 98 18 = σ2 98 18 ∧ s 98 13 = 3 ∧ s 98 14 = (σ2 98 16) ∧ s 98 5 = σ2 98 5 ∧ s 98 6 = σ2 98 6 ∧ s 98 7 = σ2 98 7 ∧ s 98 8 = H184 ∧ s 98 9 = σ2 98 9 ∧ s 101 18 = σ2 101 18 ∧ s 101 25 = σ2 101 25 ∧ s 101 43 = σ2 101 43 ∧ s = h_up s185 101 ((12 + (2 * c2)) + 1) 0) _ (ip_101_2 Is185 (by omega) (by omega)) (Fs185.up rfl) ⟨es185.1, es185.2.1, es185.2.2.1, es185.2.2.2.1, es185.2.2.2.2.1, es185.2.2.2.2.2.1, es185.2.2.2.2.2.2.1, es185.2.2.2.2.2.2.2.1, es185.2.2.2.2.2.2.2.2.1, es185.2.2.2.2.2.2.2.2.2.1, es185.2.2.2.2.2.2.2.2.2.2.1, h_up_n2 (by omega) es185.2.2.2.2.2.2.2.2.2.2.2.1, h_up_n2 (by omega) es185.2.2.2.2.2.2.2.2.2.2.2.2.1, h_up_n2 (by omega) es185.2.2.2.2.2.2.2.2.2.2.2.2.2.1, rfl⟩ (fun s186 Is186 Fs186 (es186 : s186 98 15 = σ2 98 15 ∧ s186 98 16 = σ2 98 16 ∧ s186 98 17 = σ2 98 17 ∧ s186 98 18 = σ2 98 18 ∧ s186 98 13 = 3 ∧ s186 98 14 = (σ2 98 16) ∧ s186 98 5 = σ2 98 5 ∧ s186 98 6 = σ2 98 6 ∧ s186 98 7 = σ2 98 7 ∧ s186 98 8 = H184 ∧ s186 98 9 = σ2 98 9 ∧ s186 101 18 = σ2 101 18 ∧ s186 101 25 = σ2 101 25 ∧ s186 101 43 = σ2 101 43 ∧ s186 = h_up s185 101 ((12 + (2 * c2)) + 1) 0) => ?_))
        clear hz174
        refine h_aload_n (pc' := 61) rfl rfl rfl ?_
        refine h_getR (pc' := 64) rfl rfl rfl rfl rfl ?_
        refine h_iload_n (pc' := 65) rfl rfl rfl ?_
        refine h_bipush (pc' := 67) (x := (Int32.ofInt 6)) rfl rfl cb_6 ?_
        refine h_iadd (pc' := 68) (c := 18) rfl rfl ci_12 ci_6 rfl (by omega) (by omega) (fun z187 hz187 => ?_)
        refine h_dup2 (pc' := 69) rfl rfl rfl ?_
        refine h_iald (pc' := 70) (v := σ2 101 18) rfl rfl rfl hz187 (by omega) (by omega) es186.2.2.2.2.2.2.2.2.2.2.2.1 (fun z188 hz188 => ?_)
        have tz188 := ty_101_3 hI2 18 (by omega)
        refine h_iconst (pc' := 71) (x := (Int32.ofInt 1)) rfl rfl rfl ?_
        refine h_iadd (pc' := 72) rfl rfl hz188 ci_1 rfl (by omega) (by omega) (fun z189 hz189 => ?_)
        clear hz188
        refine h_iast (pc' := 73) rfl rfl rfl rfl hz187 (by omega) (by omega) hz189 (h_fgt (E := fun s => s 98 15 = σ2 98 15 ∧ s 98 16 = σ2 98 16 ∧ s 98 17 = σ2 98 17 ∧ s 98 18 = σ2 98 18 ∧ s 98 13 = 3 ∧ s 98 14 = (σ2 98 16) ∧ s 98 5 = σ2 98 5 ∧ s 98 6 = σ2 98 6 ∧ s 98 7 = σ2 98 7 ∧ s 98 8 = H184 ∧ s 98 9 = σ2 98 9 ∧ s 101 18 = ((σ2 101 18) + 1) ∧ s 101 25 = σ2 101 25 ∧ s 101 43 = σ2 101 43 ∧ s = h_up s186 101 18 ((σ2 101 18) + 1)) _ (ip_101_3 Is186 (by omega) (by omega)) (Fs186.up rfl) ⟨es186.1, es186.2.1, es186.2.2.1, es186.2.2.2.1, es186.2.2.2.2.1, es186.2.2.2.2.2.1, es186.2.2.2.2.2.2.1, es186.2.2.2.2.2.2.2.1, es186.2.2.2.2.2.2.2.2.1, es186.2.2.2.2.2.2.2.2.2.1, es186.2.2.2.2.2.2.2.2.2.2.1, rfl, es186.2.2.2.2.2.2.2.2.2.2.2.2.1, es186.2.2.2.2.2.2.2.2.2.2.2.2.2.1, rfl⟩ (fun s190 Is190 Fs190 (es190 : s190 98 15 = σ2 98 15 ∧ s190 98 16 = σ2 98 16 ∧ s190 98 17 = σ2 98 17 ∧ s190 98 18 = σ2 98 18 ∧ s190 98 13 = 3 ∧ s190 98 14 = (σ2 98 16) ∧ s190 98 5 = σ2 98 5 ∧ s190 98 6 = σ2 98 6 ∧ s190 98 7 = σ2 98 7 ∧ s190 98 8 = H184 ∧ s190 98 9 = σ2 98 9 ∧ s190 101 18 = ((σ2 101 18) + 1) ∧ s190 101 25 = σ2 101 25 ∧ s190 101 43 = σ2 101 43 ∧ s190 = h_up s186 101 18 ((σ2 101 18) + 1)) => ?_))
        clear hz187
        refine d_toL (g_inj ns) hlw150 hRw150 (fun lvw191 memw191 hlw191 hRw191 => ?_)
        show h_T g_P (g_Y ns) 60 64 [(3, .int z145), (0, .ref 63), (1, .ref 69), (2, .int x2)] [] s140 _
        exact h_wk [(0, .ref 63)] ⟨rfl, trivial⟩ (kx0 _ _ Is140 Is190 Fs140 Fs190 (by omega) (by omega) (by omega) (by omega) (by omega) (fun h => absurd h (by omega)) (Or.inl ⟨by omega, by omega, by omega, by omega⟩) _ _ (h_al_ok ⟨rfl, trivial⟩ hlw191) hRw191)
  · show h_T g_P (g_Y ns) 60 14 [(0, .ref 63), (1, .ref 69), (2, .int x2)] [] σ1 _
    refine h_aload_n (pc' := 15) rfl rfl rfl ?_
    refine h_call (sp := false) (pc' := 18) (M := [(0, .ref 63)]) rfl rfl rfl rfl rfl rfl rfl rfl ?_
    refine h_aload_n (pc' := 1) rfl rfl rfl ?_
    refine h_getI (pc' := 4) (v := σ1 63 2) rfl rfl rfl rfl rfl rfl (fun z192 hz192 => ?_)
    have tz192 := tf_63_2 hI1
    refine h_zne (tg := 22) (pc' := 7) rfl rfl rfl hz192 (fun c193 => absurd c193 (by omega)) (fun c193 => ?_)
    clear hz192
    refine h_aload_n (pc' := 8) rfl rfl rfl ?_
    refine h_getR (pc' := 11) rfl rfl rfl rfl rfl ?_
    refine h_getI (pc' := 14) (v := σ1 64 3) rfl rfl rfl rfl rfl rfl (fun z194 hz194 => ?_)
    have tz194 := tf_64_3 hI1
    refine h_iconst (pc' := 15) (x := (Int32.ofInt 2)) rfl rfl rfl ?_
    refine h_cne (tg := 22) (pc' := 18) rfl rfl rfl hz194 ci_2 (fun c195 => ?_) (fun c195 => absurd c195 (by omega))
    clear hz194
    refine h_iconst (pc' := 23) (x := (Int32.ofInt 0)) rfl rfl rfl ?_
    refine h_zret rfl rfl ci_0 (by omega) (h_Kv ?_)
    refine h_zeq (tg := 44) (pc' := 21) rfl rfl rfl ci_0 (fun c196 => ?_) (fun c196 => absurd c196 (by omega))
    refine h_aload_n (pc' := 45) rfl rfl rfl ?_
    refine h_iconst (pc' := 46) (x := (Int32.ofInt 5)) rfl rfl rfl ?_
    refine d_toM (g_inj ns) hl2 hR2 (fun lvw197 memw197 hlw197 hRw197 => ?_)
    show h_T g_P (g_Y ns) 151 5 [(0, .ref 98), (1, .int (Int32.ofInt 12)), (2, .int y2), (3, .int y3)] [] σ2 _
    refine h_aload_n (pc' := 6) rfl rfl rfl ?_
    refine h_getI (pc' := 9) (v := σ2 98 13) rfl rfl rfl rfl rfl rfl (fun z198 hz198 => ?_)
    have tz198 := tf_98_13 hI2
    refine h_zne (tg := 33) (pc' := 12) rfl rfl rfl hz198 (fun c199 => absurd c199 (by omega)) (fun c199 => ?_)
    clear hz198
    refine h_aload_n (pc' := 13) rfl rfl rfl ?_
    refine h_getI (pc' := 16) (v := σ2 98 17) rfl rfl rfl rfl rfl rfl (fun z200 hz200 => ?_)
    have tz200 := tf_98_17 hI2
    refine h_iconst (pc' := 17) (x := (Int32.ofInt 2)) rfl rfl rfl ?_
    refine h_cne (tg := 33) (pc' := 20) rfl rfl rfl hz200 ci_2 (fun c201 => ?_) (fun c201 => absurd c201 (by omega))
    clear hz200
    refine h_aload_n (pc' := 34) rfl rfl rfl ?_
    refine h_getR (pc' := 37) rfl rfl rfl rfl rfl ?_
    refine h_iload_n (pc' := 38) rfl rfl rfl ?_
    refine h_iconst (pc' := 39) (x := (Int32.ofInt 2)) rfl rfl rfl ?_
    refine h_iload_n (pc' := 40) rfl rfl rfl ?_
    refine h_imul (pc' := 41) rfl rfl ci_2 hy2 rfl (by omega) (by omega) (fun z202 hz202 => ?_)
    refine h_iadd (pc' := 42) rfl rfl ci_12 hz202 rfl (by omega) (by omega) (fun z203 hz203 => ?_)
    clear hz202
    refine h_iload_n (pc' := 43) rfl rfl rfl ?_
    refine h_iast (pc' := 44) rfl rfl rfl rfl hz203 (by omega) (by omega) hy3 (h_fgt (E := fun s => s 98 15 = σ2 98 15 ∧ s 98 16 = σ2 98 16 ∧ s 98 17 = σ2 98 17 ∧ s 98 18 = σ2 98 18 ∧ s 98 13 = σ2 98 13 ∧ s 98 14 = σ2 98 14 ∧ s 98 5 = σ2 98 5 ∧ s 98 6 = σ2 98 6 ∧ s 98 7 = σ2 98 7 ∧ s 98 8 = σ2 98 8 ∧ s 98 9 = σ2 98 9 ∧ s 101 18 = σ2 101 18 ∧ s 101 25 = σ2 101 25 ∧ s 101 43 = σ2 101 43 ∧ s = h_up σ2 101 (12 + (2 * c2)) c3) _ (ip_101_2 hI2 (by omega) (by omega)) (F2.up rfl) ⟨rfl, rfl, rfl, rfl, rfl, rfl, rfl, rfl, rfl, rfl, rfl, h_up_n2 (by omega) rfl, h_up_n2 (by omega) rfl, h_up_n2 (by omega) rfl, rfl⟩ (fun s204 Is204 Fs204 (es204 : s204 98 15 = σ2 98 15 ∧ s204 98 16 = σ2 98 16 ∧ s204 98 17 = σ2 98 17 ∧ s204 98 18 = σ2 98 18 ∧ s204 98 13 = σ2 98 13 ∧ s204 98 14 = σ2 98 14 ∧ s204 98 5 = σ2 98 5 ∧ s204 98 6 = σ2 98 6 ∧ s204 98 7 = σ2 98 7 ∧ s204 98 8 = σ2 98 8 ∧ s204 98 9 = σ2 98 9 ∧ s204 101 18 = σ2 101 18 ∧ s204 101 25 = σ2 101 25 ∧ s204 101 43 = σ2 101 43 ∧ s204 = h_up σ2 101 (12 + (2 * c2)) c3) => ?_))
    clear hz203
    refine h_aload_n (pc' := 45) rfl rfl rfl ?_
    refine h_getR (pc' := 48) rfl rfl rfl rfl rfl ?_
    refine h_iload_n (pc' := 49) rfl rfl rfl ?_
    refine h_iconst (pc' := 50) (x := (Int32.ofInt 2)) rfl rfl rfl ?_
    refine h_iload_n (pc' := 51) rfl rfl rfl ?_
    refine h_imul (pc' := 52) rfl rfl ci_2 hy2 rfl (by omega) (by omega) (fun z205 hz205 => ?_)
    refine h_iadd (pc' := 53) rfl rfl ci_12 hz205 rfl (by omega) (by omega) (fun z206 hz206 => ?_)
    clear hz205
    refine h_iconst (pc' := 54) (x := (Int32.ofInt 1)) rfl rfl rfl ?_
    refine h_iadd (pc' := 55) rfl rfl hz206 ci_1 rfl (by omega) (by omega) (fun z207 hz207 => ?_)
    clear hz206
    refine h_aload_n (pc' := 56) rfl rfl rfl ?_
    refine d_call (g_inj ns) (pc' := 59) (m := 150) (M := [(0, .ref 98)]) (rest := [.int z207, .ref 101]) ⟨false, _, _, _, _, _, _, rfl, rfl, rfl, rfl, rfl, rfl, rfl⟩ (fun lv208 hlv208 => ?_)
    refine h_aload_n (pc' := 1) rfl rfl rfl ?_
    refine h_iconst (pc' := 2) (x := (Int32.ofInt 0)) rfl rfl rfl ?_
    refine h_iconst (pc' := 3) (x := (Int32.ofInt 5)) rfl rfl rfl ?_
    refine d_pcall (g_inj ns) (m1 := 58) (pc1' := 49) (M1 := [(0, .ref 63), (1, .int (Int32.ofInt 5))]) (rest1 := []) (m2 := 149) (pc2' := 6) (M2 := [(0, .ref 98), (1, .int (Int32.ofInt 0)), (2, .int (Int32.ofInt 5))]) (rest2 := []) ⟨false, _, _, _, _, _, _, rfl, rfl, rfl, rfl, rfl, rfl, rfl⟩ ⟨false, _, _, _, _, _, _, rfl, rfl, rfl, rfl, rfl, rfl, rfl⟩ hRw197 ?_
    refine pp_num hI1 Is204 (hTL.fr (F1.mono rfl) (Fs204.mono rfl)) (Int32.ofInt 5) _ ci_5 (Int32.ofInt 5) _ ci_5 (by omega) (by omega) (by omega) (by omega) (by omega) (by omega) (Or.inr (Or.inr (Or.inr (Or.inr ⟨by omega, by omega, by omega, by omega, by omega⟩)))) (fun rq209x bq209x hq209x rq209m bq209m hq209m sq209 tq209 Isq209 Itq209 Gsq209 Gtq209 yq209_0 yq209_1 yq209_2 yq209_3 yq209_4 pcq209 memq209 hRq209 => ?_)
    have Fsq209 := (Gsq209.mono (B := k_pl) rfl).tr F1
    have Ftq209 := (Gtq209.mono (B := k_pm) rfl).tr Fs204
    have esq209_6 : sq209 64 1 = σ1 64 1 := (Gsq209 64 1 rfl).trans rfl
    have esq209_7 : sq209 66 8 = σ1 66 8 := (Gsq209 66 8 rfl).trans rfl
    have esq209_8 : sq209 66 9 = σ1 66 9 := (Gsq209 66 9 rfl).trans rfl
    have esq209_9 : sq209 66 10 = σ1 66 10 := (Gsq209 66 10 rfl).trans rfl
    have esq209_10 : sq209 69 2 = σ1 69 2 := (Gsq209 69 2 rfl).trans rfl
    have esq209_11 : sq209 72 2 = σ1 72 2 := (Gsq209 72 2 rfl).trans rfl
    have esq209_12 : sq209 63 5 = σ1 63 5 := (Gsq209 63 5 rfl).trans rfl
    have etq209_6 : tq209 98 5 = σ2 98 5 := (Gtq209 98 5 rfl).trans es204.2.2.2.2.2.2.1
    have etq209_7 : tq209 98 6 = σ2 98 6 := (Gtq209 98 6 rfl).trans es204.2.2.2.2.2.2.2.1
    have etq209_8 : tq209 98 7 = σ2 98 7 := (Gtq209 98 7 rfl).trans es204.2.2.2.2.2.2.2.2.1
    have etq209_9 : tq209 98 8 = σ2 98 8 := (Gtq209 98 8 rfl).trans es204.2.2.2.2.2.2.2.2.2.1
    have etq209_10 : tq209 98 9 = σ2 98 9 := (Gtq209 98 9 rfl).trans es204.2.2.2.2.2.2.2.2.2.2.1
    have etq209_11 : tq209 101 18 = σ2 101 18 := (Gtq209 101 18 rfl).trans es204.2.2.2.2.2.2.2.2.2.2.2.1
    have etq209_12 : tq209 101 25 = σ2 101 25 := (Gtq209 101 25 rfl).trans es204.2.2.2.2.2.2.2.2.2.2.2.2.1
    have etq209_13 : tq209 101 43 = σ2 101 43 := (Gtq209 101 43 rfl).trans es204.2.2.2.2.2.2.2.2.2.2.2.2.2.1
    rcases pcq209 with pcq209 | pcq209
    · show h_T g_P (g_Y ns) 150 6 [(0, .ref 98)] [.int rq209m] tq209 _
      refine h_istore_n (pc' := 7) (M := [(1, .int rq209m), (0, .ref 98)]) rfl rfl rfl rfl ?_
      have oH210 : tq209 98 8 = σ2 98 8 := etq209_9
      have uH210 := tf_98_8 Itq209
      refine lm_hi _ Itq209 rq209m _ hq209m (by omega) (fun H210 hH210 => (h_fgt (E := fun s => s 98 15 = tq209 98 15 ∧ s 98 16 = tq209 98 16 ∧ s 98 17 = tq209 98 17 ∧ s 98 18 = tq209 98 18 ∧ s 98 13 = tq209 98 13 ∧ s 98 14 = tq209 98 14 ∧ s 98 5 = σ2 98 5 ∧ s 98 6 = σ2 98 6 ∧ s 98 7 = σ2 98 7 ∧ s 98 8 = H210 ∧ s 98 9 = σ2 98 9 ∧ s 101 18 = σ2 101 18 ∧ s 101 25 = σ2 101 25 ∧ s 101 43 = σ2 101 43 ∧ s = h_up tq209 98 8 H210) _ (if_98_8 Itq209 (by omega)) (Ftq209.up rfl) ⟨rfl, rfl, rfl, rfl, rfl, rfl, etq209_6, etq209_7, etq209_8, rfl, etq209_10, etq209_11, etq209_12, etq209_13, rfl⟩ (fun s211 Is211 Fs211 (es211 : s211 98 15 = tq209 98 15 ∧ s211 98 16 = tq209 98 16 ∧ s211 98 17 = tq209 98 17 ∧ s211 98 18 = tq209 98 18 ∧ s211 98 13 = tq209 98 13 ∧ s211 98 14 = tq209 98 14 ∧ s211 98 5 = σ2 98 5 ∧ s211 98 6 = σ2 98 6 ∧ s211 98 7 = σ2 98 7 ∧ s211 98 8 = H210 ∧ s211 98 9 = σ2 98 9 ∧ s211 101 18 = σ2 101 18 ∧ s211 101 25 = σ2 101 25 ∧ s211 101 43 = σ2 101 43 ∧ s211 = h_up tq209 98 8 H210) => ?_)))
      refine h_iload_n (pc' := 28) rfl rfl rfl ?_
      refine h_iret rfl rfl (d_ret hlv208 ?_)
      refine h_iast (pc' := 60) rfl rfl rfl rfl hz207 (by omega) (by omega) hq209m (h_fgt (E := fun s => s 98 15 = tq209 98 15 ∧ s 98 16 = tq209 98 16 ∧ s 98 17 = tq209 98 17 ∧ s 98 18 = tq209 98 18 ∧ s 98 13 = tq209 98 13 ∧ s 98 14 = tq209 98 14 ∧ s 98 5 = σ2 98 5 ∧ s 98 6 = σ2 98 6 ∧ s 98 7 = σ2 98 7 ∧ s 98 8 = H210 ∧ s 98 9 = σ2 98 9 ∧ s 101 18 = σ2 101 18 ∧ s 101 25 = σ2 101 25 ∧ s 101 43 = σ2 101 43 ∧ s = h_up s211 101 ((12 + (2 * c2)) + 1) bq209m) _ (ip_101_2 Is211 (by omega) (by omega)) (Fs211.up rfl) ⟨es211.1, es211.2.1, es211.2.2.1, es211.2.2.2.1, es211.2.2.2.2.1, es211.2.2.2.2.2.1, es211.2.2.2.2.2.2.1, es211.2.2.2.2.2.2.2.1, es211.2.2.2.2.2.2.2.2.1, es211.2.2.2.2.2.2.2.2.2.1, es211.2.2.2.2.2.2.2.2.2.2.1, h_up_n2 (by omega) es211.2.2.2.2.2.2.2.2.2.2.2.1, h_up_n2 (by omega) es211.2.2.2.2.2.2.2.2.2.2.2.2.1, h_up_n2 (by omega) es211.2.2.2.2.2.2.2.2.2.2.2.2.2.1, rfl⟩ (fun s212 Is212 Fs212 (es212 : s212 98 15 = tq209 98 15 ∧ s212 98 16 = tq209 98 16 ∧ s212 98 17 = tq209 98 17 ∧ s212 98 18 = tq209 98 18 ∧ s212 98 13 = tq209 98 13 ∧ s212 98 14 = tq209 98 14 ∧ s212 98 5 = σ2 98 5 ∧ s212 98 6 = σ2 98 6 ∧ s212 98 7 = σ2 98 7 ∧ s212 98 8 = H210 ∧ s212 98 9 = σ2 98 9 ∧ s212 101 18 = σ2 101 18 ∧ s212 101 25 = σ2 101 25 ∧ s212 101 43 = σ2 101 43 ∧ s212 = h_up s211 101 ((12 + (2 * c2)) + 1) bq209m) => ?_))
      clear hq209m hz207
      refine h_aload_n (pc' := 61) rfl rfl rfl ?_
      refine h_getR (pc' := 64) rfl rfl rfl rfl rfl ?_
      refine h_iload_n (pc' := 65) rfl rfl rfl ?_
      refine h_bipush (pc' := 67) (x := (Int32.ofInt 6)) rfl rfl cb_6 ?_
      refine h_iadd (pc' := 68) (c := 18) rfl rfl ci_12 ci_6 rfl (by omega) (by omega) (fun z213 hz213 => ?_)
      refine h_dup2 (pc' := 69) rfl rfl rfl ?_
      refine h_iald (pc' := 70) (v := σ2 101 18) rfl rfl rfl hz213 (by omega) (by omega) es212.2.2.2.2.2.2.2.2.2.2.2.1 (fun z214 hz214 => ?_)
      have tz214 := ty_101_3 hI2 18 (by omega)
      refine h_iconst (pc' := 71) (x := (Int32.ofInt 1)) rfl rfl rfl ?_
      refine h_iadd (pc' := 72) rfl rfl hz214 ci_1 rfl (by omega) (by omega) (fun z215 hz215 => ?_)
      clear hz214
      refine h_iast (pc' := 73) rfl rfl rfl rfl hz213 (by omega) (by omega) hz215 (h_fgt (E := fun s => s 98 15 = tq209 98 15 ∧ s 98 16 = tq209 98 16 ∧ s 98 17 = tq209 98 17 ∧ s 98 18 = tq209 98 18 ∧ s 98 13 = tq209 98 13 ∧ s 98 14 = tq209 98 14 ∧ s 98 5 = σ2 98 5 ∧ s 98 6 = σ2 98 6 ∧ s 98 7 = σ2 98 7 ∧ s 98 8 = H210 ∧ s 98 9 = σ2 98 9 ∧ s 101 18 = ((σ2 101 18) + 1) ∧ s 101 25 = σ2 101 25 ∧ s 101 43 = σ2 101 43 ∧ s = h_up s212 101 18 ((σ2 101 18) + 1)) _ (ip_101_3 Is212 (by omega) (by omega)) (Fs212.up rfl) ⟨es212.1, es212.2.1, es212.2.2.1, es212.2.2.2.1, es212.2.2.2.2.1, es212.2.2.2.2.2.1, es212.2.2.2.2.2.2.1, es212.2.2.2.2.2.2.2.1, es212.2.2.2.2.2.2.2.2.1, es212.2.2.2.2.2.2.2.2.2.1, es212.2.2.2.2.2.2.2.2.2.2.1, rfl, es212.2.2.2.2.2.2.2.2.2.2.2.2.1, es212.2.2.2.2.2.2.2.2.2.2.2.2.2.1, rfl⟩ (fun s216 Is216 Fs216 (es216 : s216 98 15 = tq209 98 15 ∧ s216 98 16 = tq209 98 16 ∧ s216 98 17 = tq209 98 17 ∧ s216 98 18 = tq209 98 18 ∧ s216 98 13 = tq209 98 13 ∧ s216 98 14 = tq209 98 14 ∧ s216 98 5 = σ2 98 5 ∧ s216 98 6 = σ2 98 6 ∧ s216 98 7 = σ2 98 7 ∧ s216 98 8 = H210 ∧ s216 98 9 = σ2 98 9 ∧ s216 101 18 = ((σ2 101 18) + 1) ∧ s216 101 25 = σ2 101 25 ∧ s216 101 43 = σ2 101 43 ∧ s216 = h_up s212 101 18 ((σ2 101 18) + 1)) => ?_))
      clear hz213
      refine d_toL (g_inj ns) hlw197 hRq209 (fun lvw217 memw217 hlw217 hRw217 => ?_)
      show h_T g_P (g_Y ns) 60 49 [(0, .ref 63), (1, .ref 69), (2, .int x2)] [.int rq209x] sq209 _
      refine h_istore_n (pc' := 50) (M := [(3, .int rq209x), (0, .ref 63), (1, .ref 69), (2, .int x2)]) rfl rfl rfl rfl ?_
      refine h_aload_n (pc' := 51) rfl rfl rfl ?_
      refine h_getI (pc' := 54) (v := sq209 63 2) rfl rfl rfl rfl rfl rfl (fun z218 hz218 => ?_)
      have tz218 := tf_63_2 Isq209
      refine h_zne (tg := 64) (pc' := 57) rfl rfl rfl hz218 (fun c219 => ?_) (fun c219 => absurd c219 (by omega))
      clear hz218
      exact h_wk [(0, .ref 63)] ⟨rfl, trivial⟩ (kx0 _ _ Isq209 Is216 Fsq209 Fs216 (by omega) (by omega) (by omega) (by omega) (by omega) (fun h => absurd h (by omega)) (Or.inl ⟨by omega, by omega, by omega, by omega⟩) _ _ (h_al_ok ⟨rfl, trivial⟩ hlw217) hRw217)
    · exfalso; omega
set_option maxHeartbeats 100000000 in
theorem ls_mar_b {ns : Nat} {σ1 σ2 : h_S} (hI1 : h_I σ1) (hI2 : h_I σ2) (hTL : d_tape σ1 σ2) (y2 : Int32) (c2 : Int) (hy2 : y2.toInt = c2) (pr0 : σ1 64 2 = σ2 98 15) (pr1 : σ1 64 4 = σ2 98 16) (pr2 : σ1 63 2 = σ2 98 13) (pr3 : σ1 66 8 = σ2 98 5) (pr4 : σ1 66 9 = σ2 98 6) (pr5 : σ1 66 10 = σ2 101 43) (pr6 : σ1 69 2 = σ2 101 18) (pr7 : σ1 72 2 = σ2 101 25) (pr8 : σ1 63 5 = σ2 98 7) (pr9 : σ1 64 2 ≤ σ1 64 1) (pr10 : d_RD σ1 σ2) (pr11 : c2 = σ2 101 18) (pc0 : ((σ1 63 2 = 0) ∧ (σ1 64 3 = 0) ∧ (0 ≤ σ1 69 2 ∧ σ1 69 2 ≤ 2) ∧ (σ2 98 13 = 0) ∧ (σ2 98 17 = 0) ∧ (0 ≤ σ2 101 18 ∧ σ2 101 18 ≤ 2) ∧ (σ1 64 4 = σ1 64 1)) ∨ ((σ1 63 2 = 0) ∧ (σ1 64 3 = 1) ∧ (0 ≤ σ1 69 2 ∧ σ1 69 2 ≤ 2) ∧ (σ2 98 13 = 0) ∧ (σ2 98 17 = 1) ∧ (0 ≤ σ2 101 18 ∧ σ2 101 18 ≤ 2) ∧ (σ1 64 4 < σ1 64 2)) ∨ ((σ1 63 2 = 0) ∧ (σ1 64 3 = 2) ∧ (0 ≤ σ1 69 2 ∧ σ1 69 2 ≤ 2) ∧ (σ2 98 13 = 0) ∧ (σ2 98 17 = 2) ∧ (0 ≤ σ2 101 18 ∧ σ2 101 18 ≤ 2) ∧ (0 ≤ σ1 64 5 ∧ σ1 64 5 ≤ 99) ∧ (0 ≤ σ2 98 18 ∧ σ2 98 18 ≤ 99) ∧ (σ1 64 5 = σ2 98 18) ∧ (σ1 64 4 < σ1 64 2)) ∨ ((σ1 63 2 = 0) ∧ (σ1 64 3 = 3) ∧ (0 ≤ σ1 69 2 ∧ σ1 69 2 ≤ 2) ∧ (σ2 98 13 = 0) ∧ (σ2 98 17 = 3) ∧ (0 ≤ σ2 101 18 ∧ σ2 101 18 ≤ 2) ∧ (σ1 64 4 < σ1 64 2))) {cs1 cs2 : List d_Fr} {Q : d_Q} (kx0 : ∀ (s t : h_S), h_I s → h_I t → h_F (k_in k_pl) s σ1 → h_F (k_in k_pm) t σ2 → (s 64 2 = t 98 15) → (s 64 4 = t 98 16) → (s 63 2 = t 98 13) → (s 64 2 ≤ s 64 1) → (σ1 64 2 ≤ s 64 2) → (d_ok s t) → (((1 ≤ s 63 2 ∧ s 63 2 ≤ 6) ∧ (1 ≤ t 98 13 ∧ t 98 13 ≤ 6) ∧ (s 63 2 = t 98 13) ∧ (s 63 3 = t 98 14)) ∨ ((s 63 2 = 0) ∧ (s 64 3 = 0) ∧ (t 98 13 = 0) ∧ (t 98 17 = 0) ∧ (s 64 4 = s 64 1) ∧ ((s 64 2 = σ1 64 2 ∧ s 64 3 = σ1 64 3) ∨ σ1 64 2 < s 64 2)) ∨ ((s 63 2 = 0) ∧ (s 64 3 = 1) ∧ (t 98 13 = 0) ∧ (t 98 17 = 1) ∧ (s 64 4 < s 64 2) ∧ ((s 64 2 = σ1 64 2 ∧ s 64 3 = σ1 64 3) ∨ σ1 64 2 < s 64 2)) ∨ ((s 63 2 = 0) ∧ (s 64 3 = 2) ∧ (t 98 13 = 0) ∧ (t 98 17 = 2) ∧ (0 ≤ s 64 5 ∧ s 64 5 ≤ 99) ∧ (0 ≤ t 98 18 ∧ t 98 18 ≤ 99) ∧ (s 64 5 = t 98 18) ∧ (s 64 4 < s 64 2) ∧ ((s 64 2 = σ1 64 2 ∧ s 64 3 = σ1 64 3) ∨ σ1 64 2 < s 64 2)) ∨ ((s 63 2 = 0) ∧ (s 64 3 = 3) ∧ (t 98 13 = 0) ∧ (t 98 17 = 3) ∧ (s 64 4 < s 64 2) ∧ ((s 64 2 = σ1 64 2 ∧ s 64 3 = σ1 64 3) ∨ σ1 64 2 < s 64 2))) → ∀ lv2 mem2, h_loc [(0, .ref 98)] lv2 → h_R (g_Y ns) t mem2 → h_T g_P (g_Y ns) 60 64 [(0, .ref 63)] [] s (d_cs g_P (g_Y ns) cs1 (d_L g_P (g_Y ns) (151, 73, lv2, []) cs2 mem2 Q))) : ∀ lv2 mem2, h_loc [(0, .ref 98), (1, .int (Int32.ofInt 12)), (2, .int y2)] lv2 → h_R (g_Y ns) σ2 mem2 → h_T g_P (g_Y ns) 60 8 [(0, .ref 63), (1, .ref 69)] [] σ1 (d_cs g_P (g_Y ns) cs1 (d_L g_P (g_Y ns) (151, 0, lv2, []) cs2 mem2 Q)) := by
  intro lv2 mem2 hl2 hR2
  have hT := hTL.1
  have hL := hTL.2
  have F1 : h_F (k_in k_pl) σ1 σ1 := h_F.rf
  have F2 : h_F (k_in k_pm) σ2 σ2 := h_F.rf
  have ge0 := tf_64_1 hI1
  have ge1 := tf_66_8 hI1
  have ge2 := tf_66_9 hI1
  have ge3 := tf_66_10 hI1
  have ge4 := tf_69_2 hI1
  have ge5 := tf_72_2 hI1
  have ge6 := tf_63_5 hI1
  have ge7 := tf_63_2 hI1
  have ge8 := tf_98_8 hI2
  have ge9 := tf_98_9 hI2
  have ge10 := tf_98_13 hI2
  show h_T g_P (g_Y ns) 60 8 [(0, .ref 63), (1, .ref 69)] [] σ1 _
  refine h_aload_n (pc' := 9) rfl rfl rfl ?_
  refine h_iconst (pc' := 10) (x := (Int32.ofInt 5)) rfl rfl rfl ?_
  refine d_toM (g_inj ns) hl2 hR2 (fun lvw1 memw1 hlw1 hRw1 => ?_)
  show h_T g_P (g_Y ns) 151 0 [(0, .ref 98), (1, .int (Int32.ofInt 12)), (2, .int y2)] [] σ2 _
  refine h_aload_n (pc' := 1) rfl rfl rfl ?_
  refine d_call (g_inj ns) (pc' := 4) (m := 150) (M := [(0, .ref 98)]) (rest := []) ⟨false, _, _, _, _, _, _, rfl, rfl, rfl, rfl, rfl, rfl, rfl⟩ (fun lv2 hlv2 => ?_)
  refine h_aload_n (pc' := 1) rfl rfl rfl ?_
  refine h_iconst (pc' := 2) (x := (Int32.ofInt 0)) rfl rfl rfl ?_
  refine h_iconst (pc' := 3) (x := (Int32.ofInt 5)) rfl rfl rfl ?_
  refine d_pcall (g_inj ns) (m1 := 58) (pc1' := 13) (M1 := [(0, .ref 63), (1, .int (Int32.ofInt 5))]) (rest1 := []) (m2 := 149) (pc2' := 6) (M2 := [(0, .ref 98), (1, .int (Int32.ofInt 0)), (2, .int (Int32.ofInt 5))]) (rest2 := []) ⟨false, _, _, _, _, _, _, rfl, rfl, rfl, rfl, rfl, rfl, rfl⟩ ⟨false, _, _, _, _, _, _, rfl, rfl, rfl, rfl, rfl, rfl, rfl⟩ hRw1 ?_
  refine pp_num hI1 hI2 (hTL.fr (F1.mono rfl) (F2.mono rfl)) (Int32.ofInt 5) _ ci_5 (Int32.ofInt 5) _ ci_5 (by omega) (by omega) (by omega) (by omega) (by omega) (by omega) (pc0.elim (fun pc0 => (Or.inr (Or.inl ⟨by omega, by omega, by omega, by omega, by omega⟩))) (fun pc0 => (pc0.elim (fun pc0 => (Or.inr (Or.inr (Or.inl ⟨by omega, by omega, by omega, by omega, by omega⟩)))) (fun pc0 => (pc0.elim (fun pc0 => (Or.inr (Or.inr (Or.inr (Or.inl ⟨by omega, by omega, by omega, by omega, by omega, by omega, by omega, by omega⟩))))) (fun pc0 => (Or.inr (Or.inr (Or.inr (Or.inr ⟨by omega, by omega, by omega, by omega, by omega⟩)))))))))) (fun rq3x bq3x hq3x rq3m bq3m hq3m sq3 tq3 Isq3 Itq3 Gsq3 Gtq3 yq3_0 yq3_1 yq3_2 yq3_3 yq3_4 pcq3 memq3 hRq3 => ?_)
  have Fsq3 := (Gsq3.mono (B := k_pl) rfl).tr F1
  have Ftq3 := (Gtq3.mono (B := k_pm) rfl).tr F2
  have esq3_6 : sq3 64 1 = σ1 64 1 := (Gsq3 64 1 rfl).trans rfl
  have esq3_7 : sq3 66 8 = σ1 66 8 := (Gsq3 66 8 rfl).trans rfl
  have esq3_8 : sq3 66 9 = σ1 66 9 := (Gsq3 66 9 rfl).trans rfl
  have esq3_9 : sq3 66 10 = σ1 66 10 := (Gsq3 66 10 rfl).trans rfl
  have esq3_10 : sq3 69 2 = σ1 69 2 := (Gsq3 69 2 rfl).trans rfl
  have esq3_11 : sq3 72 2 = σ1 72 2 := (Gsq3 72 2 rfl).trans rfl
  have esq3_12 : sq3 63 5 = σ1 63 5 := (Gsq3 63 5 rfl).trans rfl
  have etq3_6 : tq3 98 5 = σ2 98 5 := (Gtq3 98 5 rfl).trans rfl
  have etq3_7 : tq3 98 6 = σ2 98 6 := (Gtq3 98 6 rfl).trans rfl
  have etq3_8 : tq3 98 7 = σ2 98 7 := (Gtq3 98 7 rfl).trans rfl
  have etq3_9 : tq3 98 8 = σ2 98 8 := (Gtq3 98 8 rfl).trans rfl
  have etq3_10 : tq3 98 9 = σ2 98 9 := (Gtq3 98 9 rfl).trans rfl
  have etq3_11 : tq3 101 18 = σ2 101 18 := (Gtq3 101 18 rfl).trans rfl
  have etq3_12 : tq3 101 25 = σ2 101 25 := (Gtq3 101 25 rfl).trans rfl
  have etq3_13 : tq3 101 43 = σ2 101 43 := (Gtq3 101 43 rfl).trans rfl
  rcases pcq3 with pcq3 | pcq3
  · show h_T g_P (g_Y ns) 150 6 [(0, .ref 98)] [.int rq3m] tq3 _
    refine h_istore_n (pc' := 7) (M := [(1, .int rq3m), (0, .ref 98)]) rfl rfl rfl rfl ?_
    have oH4 : tq3 98 8 = σ2 98 8 := etq3_9
    have uH4 := tf_98_8 Itq3
    refine lm_hi _ Itq3 rq3m _ hq3m (by omega) (fun H4 hH4 => (h_fgt (E := fun s => s 98 15 = tq3 98 15 ∧ s 98 16 = tq3 98 16 ∧ s 98 17 = tq3 98 17 ∧ s 98 18 = tq3 98 18 ∧ s 98 13 = tq3 98 13 ∧ s 98 14 = tq3 98 14 ∧ s 98 5 = σ2 98 5 ∧ s 98 6 = σ2 98 6 ∧ s 98 7 = σ2 98 7 ∧ s 98 8 = H4 ∧ s 98 9 = σ2 98 9 ∧ s 101 18 = σ2 101 18 ∧ s 101 25 = σ2 101 25 ∧ s 101 43 = σ2 101 43 ∧ s = h_up tq3 98 8 H4) _ (if_98_8 Itq3 (by omega)) (Ftq3.up rfl) ⟨rfl, rfl, rfl, rfl, rfl, rfl, etq3_6, etq3_7, etq3_8, rfl, etq3_10, etq3_11, etq3_12, etq3_13, rfl⟩ (fun s5 Is5 Fs5 (es5 : s5 98 15 = tq3 98 15 ∧ s5 98 16 = tq3 98 16 ∧ s5 98 17 = tq3 98 17 ∧ s5 98 18 = tq3 98 18 ∧ s5 98 13 = tq3 98 13 ∧ s5 98 14 = tq3 98 14 ∧ s5 98 5 = σ2 98 5 ∧ s5 98 6 = σ2 98 6 ∧ s5 98 7 = σ2 98 7 ∧ s5 98 8 = H4 ∧ s5 98 9 = σ2 98 9 ∧ s5 101 18 = σ2 101 18 ∧ s5 101 25 = σ2 101 25 ∧ s5 101 43 = σ2 101 43 ∧ s5 = h_up tq3 98 8 H4) => ?_)))
    refine h_iload_n (pc' := 28) rfl rfl rfl ?_
    refine h_iret rfl rfl (d_ret hlv2 ?_)
    refine h_istore_n (pc' := 5) (M := [(3, .int rq3m), (0, .ref 98), (1, .int (Int32.ofInt 12)), (2, .int y2)]) rfl rfl rfl rfl ?_
    refine h_aload_n (pc' := 6) rfl rfl rfl ?_
    refine h_getI (pc' := 9) (v := tq3 98 13) rfl rfl rfl rfl rfl es5.2.2.2.2.1 (fun z6 hz6 => ?_)
    have tz6 := tf_98_13 Itq3
    refine h_zne (tg := 33) (pc' := 12) rfl rfl rfl hz6 (fun c7 => ?_) (fun c7 => absurd c7 (by omega))
    clear hz6
    refine h_aload_n (pc' := 34) rfl rfl rfl ?_
    refine h_getR (pc' := 37) rfl rfl rfl rfl rfl ?_
    refine h_iload_n (pc' := 38) rfl rfl rfl ?_
    refine h_iconst (pc' := 39) (x := (Int32.ofInt 2)) rfl rfl rfl ?_
    refine h_iload_n (pc' := 40) rfl rfl rfl ?_
    refine h_imul (pc' := 41) rfl rfl ci_2 hy2 rfl (by omega) (by omega) (fun z8 hz8 => ?_)
    refine h_iadd (pc' := 42) rfl rfl ci_12 hz8 rfl (by omega) (by omega) (fun z9 hz9 => ?_)
    clear hz8
    refine h_iload_n (pc' := 43) rfl rfl rfl ?_
    refine h_iast (pc' := 44) rfl rfl rfl rfl hz9 (by omega) (by omega) hq3m (h_fgt (E := fun s => s 98 15 = tq3 98 15 ∧ s 98 16 = tq3 98 16 ∧ s 98 17 = tq3 98 17 ∧ s 98 18 = tq3 98 18 ∧ s 98 13 = tq3 98 13 ∧ s 98 14 = tq3 98 14 ∧ s 98 5 = σ2 98 5 ∧ s 98 6 = σ2 98 6 ∧ s 98 7 = σ2 98 7 ∧ s 98 8 = H4 ∧ s 98 9 = σ2 98 9 ∧ s 101 18 = σ2 101 18 ∧ s 101 25 = σ2 101 25 ∧ s 101 43 = σ2 101 43 ∧ s = h_up s5 101 (12 + (2 * c2)) bq3m) _ (ip_101_2 Is5 (by omega) (by omega)) (Fs5.up rfl) ⟨es5.1, es5.2.1, es5.2.2.1, es5.2.2.2.1, es5.2.2.2.2.1, es5.2.2.2.2.2.1, es5.2.2.2.2.2.2.1, es5.2.2.2.2.2.2.2.1, es5.2.2.2.2.2.2.2.2.1, es5.2.2.2.2.2.2.2.2.2.1, es5.2.2.2.2.2.2.2.2.2.2.1, h_up_n2 (by omega) es5.2.2.2.2.2.2.2.2.2.2.2.1, h_up_n2 (by omega) es5.2.2.2.2.2.2.2.2.2.2.2.2.1, h_up_n2 (by omega) es5.2.2.2.2.2.2.2.2.2.2.2.2.2.1, rfl⟩ (fun s10 Is10 Fs10 (es10 : s10 98 15 = tq3 98 15 ∧ s10 98 16 = tq3 98 16 ∧ s10 98 17 = tq3 98 17 ∧ s10 98 18 = tq3 98 18 ∧ s10 98 13 = tq3 98 13 ∧ s10 98 14 = tq3 98 14 ∧ s10 98 5 = σ2 98 5 ∧ s10 98 6 = σ2 98 6 ∧ s10 98 7 = σ2 98 7 ∧ s10 98 8 = H4 ∧ s10 98 9 = σ2 98 9 ∧ s10 101 18 = σ2 101 18 ∧ s10 101 25 = σ2 101 25 ∧ s10 101 43 = σ2 101 43 ∧ s10 = h_up s5 101 (12 + (2 * c2)) bq3m) => ?_))
    clear hz9
    refine h_aload_n (pc' := 45) rfl rfl rfl ?_
    refine h_getR (pc' := 48) rfl rfl rfl rfl rfl ?_
    refine h_iload_n (pc' := 49) rfl rfl rfl ?_
    refine h_iconst (pc' := 50) (x := (Int32.ofInt 2)) rfl rfl rfl ?_
    refine h_iload_n (pc' := 51) rfl rfl rfl ?_
    refine h_imul (pc' := 52) rfl rfl ci_2 hy2 rfl (by omega) (by omega) (fun z11 hz11 => ?_)
    refine h_iadd (pc' := 53) rfl rfl ci_12 hz11 rfl (by omega) (by omega) (fun z12 hz12 => ?_)
    clear hz11
    refine h_iconst (pc' := 54) (x := (Int32.ofInt 1)) rfl rfl rfl ?_
    refine h_iadd (pc' := 55) rfl rfl hz12 ci_1 rfl (by omega) (by omega) (fun z13 hz13 => ?_)
    clear hz12
    refine h_aload_n (pc' := 56) rfl rfl rfl ?_
    refine d_call (g_inj ns) (pc' := 59) (m := 150) (M := [(0, .ref 98)]) (rest := [.int z13, .ref 101]) ⟨false, _, _, _, _, _, _, rfl, rfl, rfl, rfl, rfl, rfl, rfl⟩ (fun lv14 hlv14 => ?_)
    refine h_aload_n (pc' := 1) rfl rfl rfl ?_
    refine h_iconst (pc' := 2) (x := (Int32.ofInt 0)) rfl rfl rfl ?_
    refine h_iconst (pc' := 3) (x := (Int32.ofInt 5)) rfl rfl rfl ?_
    refine h_call (sp := false) (pc' := 6) (M := [(0, .ref 98), (1, .int (Int32.ofInt 0)), (2, .int (Int32.ofInt 5))]) rfl rfl rfl rfl rfl rfl rfl rfl ?_
    refine h_aload_n (pc' := 1) rfl rfl rfl ?_
    refine h_getI (pc' := 4) (v := tq3 98 13) rfl rfl rfl rfl rfl es10.2.2.2.2.1 (fun z15 hz15 => ?_)
    refine h_zne (tg := 20) (pc' := 7) rfl rfl rfl hz15 (fun c16 => ?_) (fun c16 => absurd c16 (by omega))
    clear hz15
    refine h_aload_n (pc' := 21) rfl rfl rfl ?_
    refine h_getI (pc' := 24) (v := tq3 98 13) rfl rfl rfl rfl rfl es10.2.2.2.2.1 (fun z17 hz17 => ?_)
    refine h_zne (tg := 47) (pc' := 27) rfl rfl rfl hz17 (fun c18 => ?_) (fun c18 => absurd c18 (by omega))
    clear hz17
    refine h_aload_n (pc' := 48) rfl rfl rfl ?_
    refine h_getI (pc' := 51) (v := tq3 98 13) rfl rfl rfl rfl rfl es10.2.2.2.2.1 (fun z19 hz19 => ?_)
    refine h_zne (tg := 61) (pc' := 54) rfl rfl rfl hz19 (fun c20 => ?_) (fun c20 => absurd c20 (by omega))
    clear hz19
    refine h_iload_n (pc' := 62) rfl rfl rfl ?_
    refine h_istore_n (pc' := 63) (M := [(3, .int (Int32.ofInt 0)), (0, .ref 98), (1, .int (Int32.ofInt 0)), (2, .int (Int32.ofInt 5))]) rfl rfl rfl rfl ?_
    refine h_aload_n (pc' := 64) rfl rfl rfl ?_
    refine h_call (sp := false) (pc' := 67) (M := [(0, .ref 98)]) rfl rfl rfl rfl rfl rfl rfl rfl ?_
    refine h_aload_n (pc' := 1) rfl rfl rfl ?_
    refine h_getI (pc' := 4) (v := tq3 98 13) rfl rfl rfl rfl rfl es10.2.2.2.2.1 (fun z21 hz21 => ?_)
    refine h_zle (tg := 8) (pc' := 7) rfl rfl rfl hz21 (fun c22 => absurd c22 (by omega)) (fun c22 => ?_)
    clear hz21
    refine h_vret rfl rfl (h_Kn ?_)
    refine h_iload_n (pc' := 68) rfl rfl rfl ?_
    refine h_iret rfl rfl (h_Kv ?_)
    refine h_istore_n (pc' := 7) (M := [(1, .int (Int32.ofInt 0)), (0, .ref 98)]) rfl rfl rfl rfl ?_
    have oH23 : s10 98 8 = H4 := es10.2.2.2.2.2.2.2.2.2.1
    have uH23 := tf_98_8 Is10
    refine lm_hi _ Is10 (Int32.ofInt 0) _ ci_0 (by omega) (fun H23 hH23 => (h_fgt (E := fun s => s 98 15 = tq3 98 15 ∧ s 98 16 = tq3 98 16 ∧ s 98 17 = tq3 98 17 ∧ s 98 18 = tq3 98 18 ∧ s 98 13 = tq3 98 13 ∧ s 98 14 = tq3 98 14 ∧ s 98 5 = σ2 98 5 ∧ s 98 6 = σ2 98 6 ∧ s 98 7 = σ2 98 7 ∧ s 98 8 = H23 ∧ s 98 9 = σ2 98 9 ∧ s 101 18 = σ2 101 18 ∧ s 101 25 = σ2 101 25 ∧ s 101 43 = σ2 101 43 ∧ s = h_up s10 98 8 H23) _ (if_98_8 Is10 (by omega)) (Fs10.up rfl) ⟨es10.1, es10.2.1, es10.2.2.1, es10.2.2.2.1, es10.2.2.2.2.1, es10.2.2.2.2.2.1, es10.2.2.2.2.2.2.1, es10.2.2.2.2.2.2.2.1, es10.2.2.2.2.2.2.2.2.1, rfl, es10.2.2.2.2.2.2.2.2.2.2.1, es10.2.2.2.2.2.2.2.2.2.2.2.1, es10.2.2.2.2.2.2.2.2.2.2.2.2.1, es10.2.2.2.2.2.2.2.2.2.2.2.2.2.1, rfl⟩ (fun s24 Is24 Fs24 (es24 : s24 98 15 = tq3 98 15 ∧ s24 98 16 = tq3 98 16 ∧ s24 98 17 = tq3 98 17 ∧ s24 98 18 = tq3 98 18 ∧ s24 98 13 = tq3 98 13 ∧ s24 98 14 = tq3 98 14 ∧ s24 98 5 = σ2 98 5 ∧ s24 98 6 = σ2 98 6 ∧ s24 98 7 = σ2 98 7 ∧ s24 98 8 = H23 ∧ s24 98 9 = σ2 98 9 ∧ s24 101 18 = σ2 101 18 ∧ s24 101 25 = σ2 101 25 ∧ s24 101 43 = σ2 101 43 ∧ s24 = h_up s10 98 8 H23) => ?_)))
    refine h_iload_n (pc' := 28) rfl rfl rfl ?_
    refine h_iret rfl rfl (d_ret hlv14 ?_)
    refine h_iast (pc' := 60) rfl rfl rfl rfl hz13 (by omega) (by omega) ci_0 (h_fgt (E := fun s => s 98 15 = tq3 98 15 ∧ s 98 16 = tq3 98 16 ∧ s 98 17 = tq3 98 17 ∧ s 98 18 = tq3 98 18 ∧ s 98 13 = tq3 98 13 ∧ s 98 14 = tq3 98 14 ∧ s 98 5 = σ2 98 5 ∧ s 98 6 = σ2 98 6 ∧ s 98 7 = σ2 98 7 ∧ s 98 8 = H23 ∧ s 98 9 = σ2 98 9 ∧ s 101 18 = σ2 101 18 ∧ s 101 25 = σ2 101 25 ∧ s 101 43 = σ2 101 43 ∧ s = h_up s24 101 ((12 + (2 * c2)) + 1) 0) _ (ip_101_2 Is24 (by omega) (by omega)) (Fs24.up rfl) ⟨es24.1, es24.2.1, es24.2.2.1, es24.2.2.2.1, es24.2.2.2.2.1, es24.2.2.2.2.2.1, es24.2.2.2.2.2.2.1, es24.2.2.2.2.2.2.2.1, es24.2.2.2.2.2.2.2.2.1, es24.2.2.2.2.2.2.2.2.2.1, es24.2.2.2.2.2.2.2.2.2.2.1, h_up_n2 (by omega) es24.2.2.2.2.2.2.2.2.2.2.2.1, h_up_n2 (by omega) es24.2.2.2.2.2.2.2.2.2.2.2.2.1, h_up_n2 (by omega) es24.2.2.2.2.2.2.2.2.2.2.2.2.2.1, rfl⟩ (fun s25 Is25 Fs25 (es25 : s25 98 15 = tq3 98 15 ∧ s25 98 16 = tq3 98 16 ∧ s25 98 17 = tq3 98 17 ∧ s25 98 18 = tq3 98 18 ∧ s25 98 13 = tq3 98 13 ∧ s25 98 14 = tq3 98 14 ∧ s25 98 5 = σ2 98 5 ∧ s25 98 6 = σ2 98 6 ∧ s25 98 7 = σ2 98 7 ∧ s25 98 8 = H23 ∧ s25 98 9 = σ2 98 9 ∧ s25 101 18 = σ2 101 18 ∧ s25 101 25 = σ2 101 25 ∧ s25 101 43 = σ2 101 43 ∧ s25 = h_up s24 101 ((12 + (2 * c2)) + 1) 0) => ?_))
    clear hz13
    refine h_aload_n (pc' := 61) rfl rfl rfl ?_
    refine h_getR (pc' := 64) rfl rfl rfl rfl rfl ?_
    refine h_iload_n (pc' := 65) rfl rfl rfl ?_
    refine h_bipush (pc' := 67) (x := (Int32.ofInt 6)) rfl rfl cb_6 ?_
    refine h_iadd (pc' := 68) (c := 18) rfl rfl ci_12 ci_6 rfl (by omega) (by omega) (fun z26 hz26 => ?_)
    refine h_dup2 (pc' := 69) rfl rfl rfl ?_
    refine h_iald (pc' := 70) (v := σ2 101 18) rfl rfl rfl hz26 (by omega) (by omega) es25.2.2.2.2.2.2.2.2.2.2.2.1 (fun z27 hz27 => ?_)
    have tz27 := ty_101_3 hI2 18 (by omega)
    refine h_iconst (pc' := 71) (x := (Int32.ofInt 1)) rfl rfl rfl ?_
    refine h_iadd (pc' := 72) rfl rfl hz27 ci_1 rfl (by omega) (by omega) (fun z28 hz28 => ?_)
    clear hz27
    refine h_iast (pc' := 73) rfl rfl rfl rfl hz26 (by omega) (by omega) hz28 (h_fgt (E := fun s => s 98 15 = tq3 98 15 ∧ s 98 16 = tq3 98 16 ∧ s 98 17 = tq3 98 17 ∧ s 98 18 = tq3 98 18 ∧ s 98 13 = tq3 98 13 ∧ s 98 14 = tq3 98 14 ∧ s 98 5 = σ2 98 5 ∧ s 98 6 = σ2 98 6 ∧ s 98 7 = σ2 98 7 ∧ s 98 8 = H23 ∧ s 98 9 = σ2 98 9 ∧ s 101 18 = ((σ2 101 18) + 1) ∧ s 101 25 = σ2 101 25 ∧ s 101 43 = σ2 101 43 ∧ s = h_up s25 101 18 ((σ2 101 18) + 1)) _ (ip_101_3 Is25 (by omega) (by omega)) (Fs25.up rfl) ⟨es25.1, es25.2.1, es25.2.2.1, es25.2.2.2.1, es25.2.2.2.2.1, es25.2.2.2.2.2.1, es25.2.2.2.2.2.2.1, es25.2.2.2.2.2.2.2.1, es25.2.2.2.2.2.2.2.2.1, es25.2.2.2.2.2.2.2.2.2.1, es25.2.2.2.2.2.2.2.2.2.2.1, rfl, es25.2.2.2.2.2.2.2.2.2.2.2.2.1, es25.2.2.2.2.2.2.2.2.2.2.2.2.2.1, rfl⟩ (fun s29 Is29 Fs29 (es29 : s29 98 15 = tq3 98 15 ∧ s29 98 16 = tq3 98 16 ∧ s29 98 17 = tq3 98 17 ∧ s29 98 18 = tq3 98 18 ∧ s29 98 13 = tq3 98 13 ∧ s29 98 14 = tq3 98 14 ∧ s29 98 5 = σ2 98 5 ∧ s29 98 6 = σ2 98 6 ∧ s29 98 7 = σ2 98 7 ∧ s29 98 8 = H23 ∧ s29 98 9 = σ2 98 9 ∧ s29 101 18 = ((σ2 101 18) + 1) ∧ s29 101 25 = σ2 101 25 ∧ s29 101 43 = σ2 101 43 ∧ s29 = h_up s25 101 18 ((σ2 101 18) + 1)) => ?_))
    clear hz26
    refine d_toL (g_inj ns) hlw1 hRq3 (fun lvw30 memw30 hlw30 hRw30 => ?_)
    show h_T g_P (g_Y ns) 60 13 [(0, .ref 63), (1, .ref 69)] [.int rq3x] sq3 _
    refine h_istore_n (pc' := 14) (M := [(2, .int rq3x), (0, .ref 63), (1, .ref 69)]) rfl rfl rfl rfl ?_
    refine h_aload_n (pc' := 15) rfl rfl rfl ?_
    refine h_call (sp := false) (pc' := 18) (M := [(0, .ref 63)]) rfl rfl rfl rfl rfl rfl rfl rfl ?_
    refine h_aload_n (pc' := 1) rfl rfl rfl ?_
    refine h_getI (pc' := 4) (v := sq3 63 2) rfl rfl rfl rfl rfl rfl (fun z31 hz31 => ?_)
    have tz31 := tf_63_2 Isq3
    refine h_zne (tg := 22) (pc' := 7) rfl rfl rfl hz31 (fun c32 => ?_) (fun c32 => absurd c32 (by omega))
    clear hz31
    refine h_iconst (pc' := 23) (x := (Int32.ofInt 0)) rfl rfl rfl ?_
    refine h_zret rfl rfl ci_0 (by omega) (h_Kv ?_)
    refine h_zeq (tg := 44) (pc' := 21) rfl rfl rfl ci_0 (fun c33 => ?_) (fun c33 => absurd c33 (by omega))
    refine h_aload_n (pc' := 45) rfl rfl rfl ?_
    refine h_iconst (pc' := 46) (x := (Int32.ofInt 5)) rfl rfl rfl ?_
    refine h_call (sp := false) (pc' := 49) (M := [(0, .ref 63), (1, .int (Int32.ofInt 5))]) rfl rfl rfl rfl rfl rfl rfl rfl ?_
    refine h_aload_n (pc' := 1) rfl rfl rfl ?_
    refine h_getI (pc' := 4) (v := sq3 63 2) rfl rfl rfl rfl rfl rfl (fun z34 hz34 => ?_)
    refine h_zne (tg := 30) (pc' := 7) rfl rfl rfl hz34 (fun c35 => ?_) (fun c35 => absurd c35 (by omega))
    clear hz34
    refine h_aload_n (pc' := 31) rfl rfl rfl ?_
    refine h_getI (pc' := 34) (v := sq3 63 2) rfl rfl rfl rfl rfl rfl (fun z36 hz36 => ?_)
    refine h_zne (tg := 60) (pc' := 37) rfl rfl rfl hz36 (fun c37 => ?_) (fun c37 => absurd c37 (by omega))
    clear hz36
    refine h_aload_n (pc' := 61) rfl rfl rfl ?_
    refine h_getR (pc' := 64) rfl rfl rfl rfl rfl ?_
    refine h_getI (pc' := 67) (v := sq3 64 5) rfl rfl rfl rfl rfl rfl (fun z38 hz38 => ?_)
    have tz38 := tf_64_5 Isq3
    refine h_istore_n (pc' := 68) (M := [(2, .int z38), (0, .ref 63), (1, .int (Int32.ofInt 5))]) rfl rfl rfl rfl ?_
    refine h_aload_n (pc' := 69) rfl rfl rfl ?_
    refine h_call (sp := false) (pc' := 72) (M := [(0, .ref 63)]) rfl rfl rfl rfl rfl rfl rfl rfl ?_
    refine h_aload_n (pc' := 1) rfl rfl rfl ?_
    refine h_getI (pc' := 4) (v := sq3 63 2) rfl rfl rfl rfl rfl rfl (fun z39 hz39 => ?_)
    refine h_zne (tg := 37) (pc' := 7) rfl rfl rfl hz39 (fun c40 => ?_) (fun c40 => absurd c40 (by omega))
    clear hz39
    refine h_vret rfl rfl (h_Kn ?_)
    refine h_iload_n (pc' := 73) rfl rfl rfl ?_
    refine h_iret rfl rfl (h_Kv ?_)
    refine h_istore_n (pc' := 50) (M := [(3, .int z38), (2, .int rq3x), (0, .ref 63), (1, .ref 69)]) rfl rfl rfl rfl ?_
    refine h_aload_n (pc' := 51) rfl rfl rfl ?_
    refine h_getI (pc' := 54) (v := sq3 63 2) rfl rfl rfl rfl rfl rfl (fun z41 hz41 => ?_)
    refine h_zne (tg := 64) (pc' := 57) rfl rfl rfl hz41 (fun c42 => ?_) (fun c42 => absurd c42 (by omega))
    clear hz41
    exact h_wk [(0, .ref 63)] ⟨rfl, trivial⟩ (kx0 _ _ Isq3 Is29 Fsq3 Fs29 (by omega) (by omega) (by omega) (by omega) (by omega) (fun h => absurd h (by omega)) (Or.inl ⟨by omega, by omega, by omega, by omega⟩) _ _ (h_al_ok ⟨rfl, trivial⟩ hlw30) hRw30)
  · show h_T g_P (g_Y ns) 150 6 [(0, .ref 98)] [.int rq3m] tq3 _
    refine h_istore_n (pc' := 7) (M := [(1, .int rq3m), (0, .ref 98)]) rfl rfl rfl rfl ?_
    have oH43 : tq3 98 8 = σ2 98 8 := etq3_9
    have uH43 := tf_98_8 Itq3
    refine lm_hi _ Itq3 rq3m _ hq3m (by omega) (fun H43 hH43 => (h_fgt (E := fun s => s 98 15 = tq3 98 15 ∧ s 98 16 = tq3 98 16 ∧ s 98 17 = tq3 98 17 ∧ s 98 18 = tq3 98 18 ∧ s 98 13 = tq3 98 13 ∧ s 98 14 = tq3 98 14 ∧ s 98 5 = σ2 98 5 ∧ s 98 6 = σ2 98 6 ∧ s 98 7 = σ2 98 7 ∧ s 98 8 = H43 ∧ s 98 9 = σ2 98 9 ∧ s 101 18 = σ2 101 18 ∧ s 101 25 = σ2 101 25 ∧ s 101 43 = σ2 101 43 ∧ s = h_up tq3 98 8 H43) _ (if_98_8 Itq3 (by omega)) (Ftq3.up rfl) ⟨rfl, rfl, rfl, rfl, rfl, rfl, etq3_6, etq3_7, etq3_8, rfl, etq3_10, etq3_11, etq3_12, etq3_13, rfl⟩ (fun s44 Is44 Fs44 (es44 : s44 98 15 = tq3 98 15 ∧ s44 98 16 = tq3 98 16 ∧ s44 98 17 = tq3 98 17 ∧ s44 98 18 = tq3 98 18 ∧ s44 98 13 = tq3 98 13 ∧ s44 98 14 = tq3 98 14 ∧ s44 98 5 = σ2 98 5 ∧ s44 98 6 = σ2 98 6 ∧ s44 98 7 = σ2 98 7 ∧ s44 98 8 = H43 ∧ s44 98 9 = σ2 98 9 ∧ s44 101 18 = σ2 101 18 ∧ s44 101 25 = σ2 101 25 ∧ s44 101 43 = σ2 101 43 ∧ s44 = h_up tq3 98 8 H43) => ?_)))
    refine h_iload_n (pc' := 28) rfl rfl rfl ?_
    refine h_iret rfl rfl (d_ret hlv2 ?_)
    refine h_istore_n (pc' := 5) (M := [(3, .int rq3m), (0, .ref 98), (1, .int (Int32.ofInt 12)), (2, .int y2)]) rfl rfl rfl rfl ?_
    refine d_toL (g_inj ns) hlw1 hRq3 (fun lvw45 memw45 hlw45 hRw45 => ?_)
    show h_T g_P (g_Y ns) 60 13 [(0, .ref 63), (1, .ref 69)] [.int rq3x] sq3 _
    refine h_istore_n (pc' := 14) (M := [(2, .int rq3x), (0, .ref 63), (1, .ref 69)]) rfl rfl rfl rfl ?_
    refine h_wk [(0, .ref 63), (1, .ref 69), (2, .int rq3x)] ⟨rfl, rfl, rfl, trivial⟩ (ls_mar_c Isq3 Is44 (hTL.fr (Fsq3.mono rfl) (Fs44.mono rfl)) rq3x _ hq3x y2 _ hy2 rq3m _ hq3m (σ2 98 8) (by omega) (by omega) (by omega) (by omega) (by omega) (by omega) (by omega) (by omega) (by omega) (by omega) (d_mkH ((Gsq3 66 8 rfl)) ((Gsq3 66 9 rfl)) ((Gsq3 66 10 rfl)) ((Gsq3 69 2 rfl)) ((Gsq3 72 2 rfl)) ((Gsq3 63 5 rfl)) (fun j => (Gsq3 67 j rfl)) (fun j => (Gsq3 68 j rfl)) (fun j => (Gsq3 70 j rfl)) (fun j => (Gsq3 71 j rfl)) (fun j => (Gsq3 73 j rfl)) (fun j => (Gsq3 74 j rfl)) (fun j => (Gsq3 75 j rfl)) (fun j => (Gsq3 76 j rfl)) (fun j => (Gsq3 77 j rfl)) (fun j => (Gsq3 78 j rfl)) ((h_upd es44.2.2.2.2.2.2.2.2.2.2.2.2.2.2 (by decide)).trans (Gtq3 98 5 rfl)) ((h_upd es44.2.2.2.2.2.2.2.2.2.2.2.2.2.2 (by decide)).trans (Gtq3 98 6 rfl)) ((h_upd es44.2.2.2.2.2.2.2.2.2.2.2.2.2.2 (by decide)).trans (Gtq3 98 7 rfl)) ((h_upd es44.2.2.2.2.2.2.2.2.2.2.2.2.2.2 (by decide)).trans (Gtq3 98 9 rfl)) (fun j => (h_upo es44.2.2.2.2.2.2.2.2.2.2.2.2.2.2 rfl j).trans (Gtq3 101 j rfl)) (pr10)) (by omega) (by omega) (by omega) (by omega) (by omega) (by omega) (pcq3.elim (fun pcq3 => (Or.inl ⟨by omega, by omega, by omega, by omega, by omega, by omega, by omega⟩)) (fun pcq3 => (pcq3.elim (fun pcq3 => (Or.inr (Or.inl ⟨by omega, by omega, by omega, by omega, by omega, by omega, by omega⟩))) (fun pcq3 => (pcq3.elim (fun pcq3 => (Or.inr (Or.inr (Or.inl ⟨by omega, by omega, by omega, by omega, by omega, by omega, by omega, by omega, by omega, by omega⟩)))) (fun pcq3 => (Or.inr (Or.inr (Or.inr ⟨by omega, by omega, by omega, by omega, by omega, by omega, by omega⟩))))))))) (fun sq46 tq46 Isq46 Itq46 Gsq46 Gtq46   yq46_0 yq46_1 yq46_2 yq46_3 yq46_4 yq46_5 pcq46 lvq46 memq46 hlq46 hRq46 => ?_) _ _ (h_al_ok ⟨rfl, rfl, rfl, rfl, trivial⟩ hlw45) hRw45)
    · have Fsq46 := (Gsq46.mono (B := k_pl) rfl).tr Fsq3
      have Ftq46 := (Gtq46.mono (B := k_pm) rfl).tr Fs44
      have Isq46 := Isq46
      have Itq46 := Itq46
      have Gsq46 := Gsq46
      have Gtq46 := Gtq46
      have esq46_6 : sq46 64 1 = σ1 64 1 := (Gsq46 64 1 rfl).trans esq3_6
      show h_T g_P (g_Y ns) 60 64 [(0, .ref 63)] [] sq46 _
      clear hq3m hq3x
      refine d_toM (g_inj ns) hlq46 hRq46 (fun lvw47 memw47 hlw47 hRw47 => ?_)
      show h_T g_P (g_Y ns) 151 73 [(0, .ref 98)] [] tq46 _
      refine d_toL (g_inj ns) hlw47 hRw47 (fun lvw48 memw48 hlw48 hRw48 => ?_)
      show h_T g_P (g_Y ns) 60 64 [(0, .ref 63)] [] sq46 _
      exact h_wk [(0, .ref 63)] ⟨rfl, trivial⟩ (kx0 _ _ Isq46 Itq46 Fsq46 Ftq46 (by omega) (by omega) (by omega) (by omega) (by omega) (yq46_5) (pcq46.elim (fun pcq46 => (Or.inl ⟨by omega, by omega, by omega, by omega⟩)) (fun pcq46 => (pcq46.elim (fun pcq46 => (Or.inr (Or.inl ⟨by omega, by omega, by omega, by omega, by omega, by omega⟩))) (fun pcq46 => (pcq46.elim (fun pcq46 => (Or.inr (Or.inr (Or.inl ⟨by omega, by omega, by omega, by omega, by omega, by omega⟩)))) (fun pcq46 => (pcq46.elim (fun pcq46 => (Or.inr (Or.inr (Or.inr (Or.inl ⟨by omega, by omega, by omega, by omega, by omega, by omega, by omega, by omega, by omega⟩))))) (fun pcq46 => (Or.inr (Or.inr (Or.inr (Or.inr ⟨by omega, by omega, by omega, by omega, by omega, by omega⟩)))))))))))) _ _ (h_al_ok ⟨rfl, trivial⟩ hlw48) hRw48)
set_option maxHeartbeats 100000000 in
theorem ls_mar {ns : Nat} {σ1 σ2 : h_S} (hI1 : h_I σ1) (hI2 : h_I σ2) (hTL : d_tape σ1 σ2) (x1 : Int32) (a1 : Int) (hx1 : x1.toInt = a1) (y1 : Int32) (c1 : Int) (hy1 : y1.toInt = c1) (pr0 : σ1 64 2 = σ2 98 15) (pr1 : σ1 64 4 = σ2 98 16) (pr2 : σ1 63 2 = σ2 98 13) (pr3 : σ1 66 8 = σ2 98 5) (pr4 : σ1 66 9 = σ2 98 6) (pr5 : σ1 66 10 = σ2 101 43) (pr6 : σ1 69 2 = σ2 101 18) (pr7 : σ1 72 2 = σ2 101 25) (pr8 : σ1 63 5 = σ2 98 7) (pr9 : σ1 64 2 ≤ σ1 64 1) (pr10 : d_RD σ1 σ2) (pr11 : a1 = c1) (pr12 : a1 = 4) (pc0 : ((σ1 63 2 = 0) ∧ (σ2 98 13 = 0))) {cs1 cs2 : List d_Fr} {Q : d_Q} (kx0 : ∀ (s t : h_S), h_I s → h_I t → h_F (k_in k_pl) s σ1 → h_F (k_in k_pm) t σ2 → (s 64 2 = t 98 15) → (s 64 4 = t 98 16) → (s 63 2 = t 98 13) → (s 64 2 ≤ s 64 1) → (σ1 64 2 ≤ s 64 2) → (d_ok s t) → (((1 ≤ s 63 2 ∧ s 63 2 ≤ 6) ∧ (1 ≤ t 98 13 ∧ t 98 13 ≤ 6) ∧ (s 63 2 = t 98 13) ∧ (s 63 3 = t 98 14)) ∨ ((s 63 2 = 0) ∧ (s 64 3 = 3) ∧ (t 98 13 = 0) ∧ (t 98 17 = 3) ∧ (s 64 4 < s 64 2) ∧ (σ1 64 2 < s 64 2))) → ∀ lv2 mem2, h_loc [(0, .ref 98)] lv2 → h_R (g_Y ns) t mem2 → h_T g_P (g_Y ns) 56 180 [(0, .ref 63)] [] s (d_cs g_P (g_Y ns) cs1 (d_L g_P (g_Y ns) (154, 165, lv2, []) cs2 mem2 Q))) (kx1 : ∀ (s t : h_S), h_I s → h_I t → h_F (k_in k_pl) s σ1 → h_F (k_in k_pm) t σ2 → (s 64 2 = t 98 15) → (s 64 4 = t 98 16) → (s 63 2 = t 98 13) → (s 64 2 ≤ s 64 1) → (σ1 64 2 ≤ s 64 2) → (((1 ≤ s 63 2 ∧ s 63 2 ≤ 6) ∧ (1 ≤ t 98 13 ∧ t 98 13 ≤ 6) ∧ (s 63 2 = t 98 13) ∧ (s 63 3 = t 98 14))) → ∀ lv2 mem2, h_loc [(0, .ref 98)] lv2 → h_R (g_Y ns) t mem2 → h_T g_P (g_Y ns) 56 180 [(0, .ref 63)] [] s (d_cs g_P (g_Y ns) cs1 (d_L g_P (g_Y ns) (154, 139, lv2, []) cs2 mem2 Q))) : ∀ lv2 mem2, h_loc [(0, .ref 98), (1, .int y1)] lv2 → h_R (g_Y ns) σ2 mem2 → h_T g_P (g_Y ns) 56 88 [(0, .ref 63), (1, .int x1)] [] σ1 (d_cs g_P (g_Y ns) cs1 (d_L g_P (g_Y ns) (154, 23, lv2, []) cs2 mem2 Q)) := by
  intro lv2 mem2 hl2 hR2
  have hT := hTL.1
  have hL := hTL.2
  have F1 : h_F (k_in k_pl) σ1 σ1 := h_F.rf
  have F2 : h_F (k_in k_pm) σ2 σ2 := h_F.rf
  have ge0 := tf_64_1 hI1
  have ge1 := tf_66_8 hI1
  have ge2 := tf_66_9 hI1
  have ge3 := tf_66_10 hI1
  have ge4 := tf_69_2 hI1
  have ge5 := tf_72_2 hI1
  have ge6 := tf_63_5 hI1
  have ge7 := tf_63_2 hI1
  have ge8 := tf_98_8 hI2
  have ge9 := tf_98_9 hI2
  have ge10 := tf_98_13 hI2
  rcases pc0 with pc0
  · show h_T g_P (g_Y ns) 56 88 [(0, .ref 63), (1, .int x1)] [] σ1 _
    refine h_aload_n (pc' := 89) rfl rfl rfl ?_
    refine h_aload_n (pc' := 90) rfl rfl rfl ?_
    refine h_getR (pc' := 93) rfl rfl rfl rfl rfl ?_
    refine h_getR (pc' := 96) rfl rfl rfl rfl rfl ?_
    refine d_call (g_inj ns) (pc' := 99) (m := 60) (M := [(0, .ref 63), (1, .ref 69)]) (rest := []) ⟨false, _, _, _, _, _, _, rfl, rfl, rfl, rfl, rfl, rfl, rfl⟩ (fun lv1 hlv1 => ?_)
    refine h_aload_n (pc' := 1) rfl rfl rfl ?_
    refine h_aload_n (pc' := 2) rfl rfl rfl ?_
    refine h_call (sp := false) (pc' := 5) (M := [(0, .ref 69)]) rfl rfl rfl rfl rfl rfl rfl rfl ?_
    refine h_aload_n (pc' := 1) rfl rfl rfl ?_
    refine h_getI (pc' := 4) (v := σ1 69 2) rfl rfl rfl rfl rfl rfl (fun z2 hz2 => ?_)
    have tz2 := tf_69_2 hI1
    refine h_iconst (pc' := 5) (x := (Int32.ofInt 3)) rfl rfl rfl ?_
    refine h_clt (tg := 12) (pc' := 8) rfl rfl rfl hz2 ci_3 (fun c3 => ?_) (fun c3 => ?_)
    · clear hz2
      refine h_iconst (pc' := 13) (x := (Int32.ofInt 0)) rfl rfl rfl ?_
      refine h_zret rfl rfl ci_0 (by omega) (h_Kv ?_)
      refine d_call (g_inj ns) (pc' := 8) (m := 57) (M := [(0, .ref 63), (1, .int (Int32.ofInt 0))]) (rest := []) ⟨false, _, _, _, _, _, _, rfl, rfl, rfl, rfl, rfl, rfl, rfl⟩ (fun lv4 hlv4 => ?_)
      refine h_iload_n (pc' := 1) rfl rfl rfl ?_
      refine h_zeq (tg := 16) (pc' := 4) rfl rfl rfl ci_0 (fun c5 => ?_) (fun c5 => absurd c5 (by omega))
      refine h_aload_n (pc' := 17) rfl rfl rfl ?_
      refine d_toM (g_inj ns) hl2 hR2 (fun lvw6 memw6 hlw6 hRw6 => ?_)
      show h_T g_P (g_Y ns) 154 23 [(0, .ref 98), (1, .int y1)] [] σ2 _
      refine h_iload_n (pc' := 24) rfl rfl rfl ?_
      refine h_iconst (pc' := 25) (x := (Int32.ofInt 3)) rfl rfl rfl ?_
      refine h_cgt (tg := 37) (pc' := 28) rfl rfl rfl hy1 ci_3 (fun c7 => ?_) (fun c7 => absurd c7 (by omega))
      refine h_iload_n (pc' := 38) rfl rfl rfl ?_
      refine h_iconst (pc' := 39) (x := (Int32.ofInt 4)) rfl rfl rfl ?_
      refine h_cne (tg := 53) (pc' := 42) rfl rfl rfl hy1 ci_4 (fun c8 => absurd c8 (by omega)) (fun c8 => ?_)
      refine h_aload_n (pc' := 43) rfl rfl rfl ?_
      refine h_getR (pc' := 46) rfl rfl rfl rfl rfl ?_
      refine h_bipush (pc' := 48) (x := (Int32.ofInt 18)) rfl rfl cb_18 ?_
      refine h_iald (pc' := 49) (v := σ2 101 18) rfl rfl rfl ci_18 (by omega) (by omega) rfl (fun z9 hz9 => ?_)
      have tz9 := ty_101_3 hI2 18 (by omega)
      refine h_iconst (pc' := 50) (x := (Int32.ofInt 3)) rfl rfl rfl ?_
      refine h_ceq (tg := 83) (pc' := 53) rfl rfl rfl hz9 ci_3 (fun c10 => absurd c10 (by omega)) (fun c10 => ?_)
      clear hz9
      refine h_iload_n (pc' := 54) rfl rfl rfl ?_
      refine h_iconst (pc' := 55) (x := (Int32.ofInt 5)) rfl rfl rfl ?_
      refine h_cne (tg := 69) (pc' := 58) rfl rfl rfl hy1 ci_5 (fun c11 => ?_) (fun c11 => absurd c11 (by omega))
      refine h_iload_n (pc' := 70) rfl rfl rfl ?_
      refine h_bipush (pc' := 72) (x := (Int32.ofInt 6)) rfl rfl cb_6 ?_
      refine h_cne (tg := 88) (pc' := 75) rfl rfl rfl hy1 ci_6 (fun c12 => ?_) (fun c12 => absurd c12 (by omega))
      refine h_iload_n (pc' := 89) rfl rfl rfl ?_
      refine h_bipush (pc' := 91) (x := (Int32.ofInt 7)) rfl rfl cb_7 ?_
      refine h_cne (tg := 106) (pc' := 94) rfl rfl rfl hy1 ci_7 (fun c13 => ?_) (fun c13 => absurd c13 (by omega))
      refine h_aload_n (pc' := 107) rfl rfl rfl ?_
      refine h_aload_n (pc' := 108) rfl rfl rfl ?_
      refine h_getI (pc' := 111) (v := σ2 98 7) rfl rfl rfl rfl rfl rfl (fun z14 hz14 => ?_)
      have tz14 := tf_98_7 hI2
      refine h_zne (tg := 120) (pc' := 114) rfl rfl rfl hz14 (fun c15 => ?_) (fun c15 => ?_)
      · clear hz14
        refine h_iconst (pc' := 121) (x := (Int32.ofInt 1)) rfl rfl rfl ?_
        refine h_goto (pc' := 125) rfl rfl ?_
        refine h_put (pc' := 128) rfl rfl rfl rfl rfl rfl ci_1 (h_fb ci_1 (by omega)) (h_fgt (E := fun s => s 98 15 = σ2 98 15 ∧ s 98 16 = σ2 98 16 ∧ s 98 17 = σ2 98 17 ∧ s 98 18 = σ2 98 18 ∧ s 98 13 = σ2 98 13 ∧ s 98 14 = σ2 98 14 ∧ s 98 5 = σ2 98 5 ∧ s 98 6 = σ2 98 6 ∧ s 98 7 = 1 ∧ s 98 8 = σ2 98 8 ∧ s 98 9 = σ2 98 9 ∧ s 101 18 = σ2 101 18 ∧ s 101 25 = σ2 101 25 ∧ s 101 43 = σ2 101 43 ∧ s = h_up σ2 98 7 1) _ (if_98_7 hI2 (by omega)) (F2.up rfl) ⟨rfl, rfl, rfl, rfl, rfl, rfl, rfl, rfl, rfl, rfl, rfl, rfl, rfl, rfl, rfl⟩ (fun s16 Is16 Fs16 (es16 : s16 98 15 = σ2 98 15 ∧ s16 98 16 = σ2 98 16 ∧ s16 98 17 = σ2 98 17 ∧ s16 98 18 = σ2 98 18 ∧ s16 98 13 = σ2 98 13 ∧ s16 98 14 = σ2 98 14 ∧ s16 98 5 = σ2 98 5 ∧ s16 98 6 = σ2 98 6 ∧ s16 98 7 = 1 ∧ s16 98 8 = σ2 98 8 ∧ s16 98 9 = σ2 98 9 ∧ s16 101 18 = σ2 101 18 ∧ s16 101 25 = σ2 101 25 ∧ s16 101 43 = σ2 101 43 ∧ s16 = h_up σ2 98 7 1) => ?_))
        refine h_aload_n (pc' := 129) rfl rfl rfl ?_
        refine d_pcall (g_inj ns) (m1 := 54) (pc1' := 20) (M1 := [(0, .ref 63)]) (rest1 := []) (m2 := 148) (pc2' := 132) (M2 := [(0, .ref 98)]) (rest2 := []) ⟨false, _, _, _, _, _, _, rfl, rfl, rfl, rfl, rfl, rfl, rfl⟩ ⟨false, _, _, _, _, _, _, rfl, rfl, rfl, rfl, rfl, rfl, rfl⟩ hRw6 ?_
        refine pp_step hI1 Is16 (hTL.fr (F1.mono rfl) (Fs16.mono rfl)) (by omega) (by omega) (by omega) (by omega) (Or.inr ⟨by omega, by omega⟩) (fun sq17 tq17 Isq17 Itq17 Gsq17 Gtq17 yq17_0 yq17_1 yq17_2 yq17_3 yq17_4 pcq17 memq17 hRq17 => ?_)
        have Fsq17 := (Gsq17.mono (B := k_pl) rfl).tr F1
        have Ftq17 := (Gtq17.mono (B := k_pm) rfl).tr Fs16
        have esq17_6 : sq17 64 1 = σ1 64 1 := (Gsq17 64 1 rfl).trans rfl
        have esq17_7 : sq17 66 8 = σ1 66 8 := (Gsq17 66 8 rfl).trans rfl
        have esq17_8 : sq17 66 9 = σ1 66 9 := (Gsq17 66 9 rfl).trans rfl
        have esq17_9 : sq17 66 10 = σ1 66 10 := (Gsq17 66 10 rfl).trans rfl
        have esq17_10 : sq17 69 2 = σ1 69 2 := (Gsq17 69 2 rfl).trans rfl
        have esq17_11 : sq17 72 2 = σ1 72 2 := (Gsq17 72 2 rfl).trans rfl
        have esq17_12 : sq17 63 5 = σ1 63 5 := (Gsq17 63 5 rfl).trans rfl
        have etq17_6 : tq17 98 5 = σ2 98 5 := (Gtq17 98 5 rfl).trans es16.2.2.2.2.2.2.1
        have etq17_7 : tq17 98 6 = σ2 98 6 := (Gtq17 98 6 rfl).trans es16.2.2.2.2.2.2.2.1
        have etq17_8 : tq17 98 7 = 1 := (Gtq17 98 7 rfl).trans es16.2.2.2.2.2.2.2.2.1
        have etq17_9 : tq17 98 8 = σ2 98 8 := (Gtq17 98 8 rfl).trans es16.2.2.2.2.2.2.2.2.2.1
        have etq17_10 : tq17 98 9 = σ2 98 9 := (Gtq17 98 9 rfl).trans es16.2.2.2.2.2.2.2.2.2.2.1
        have etq17_11 : tq17 101 18 = σ2 101 18 := (Gtq17 101 18 rfl).trans es16.2.2.2.2.2.2.2.2.2.2.2.1
        have etq17_12 : tq17 101 25 = σ2 101 25 := (Gtq17 101 25 rfl).trans es16.2.2.2.2.2.2.2.2.2.2.2.2.1
        have etq17_13 : tq17 101 43 = σ2 101 43 := (Gtq17 101 43 rfl).trans es16.2.2.2.2.2.2.2.2.2.2.2.2.2.1
        show h_T g_P (g_Y ns) 154 132 [(0, .ref 98), (1, .int y1)] [] tq17 _
        refine h_aload_n (pc' := 133) rfl rfl rfl ?_
        refine h_getI (pc' := 136) (v := tq17 98 13) rfl rfl rfl rfl rfl rfl (fun z18 hz18 => ?_)
        have tz18 := tf_98_13 Itq17
        refine h_zle (tg := 140) (pc' := 139) rfl rfl rfl hz18 (fun c19 => ?_) (fun c19 => ?_)
        · clear hz18
          refine h_aload_n (pc' := 141) rfl rfl rfl ?_
          refine h_iload_n (pc' := 142) rfl rfl rfl ?_
          refine d_call (g_inj ns) (pc' := 145) (m := 153) (M := [(0, .ref 98), (1, .int y1)]) (rest := []) ⟨false, _, _, _, _, _, _, rfl, rfl, rfl, rfl, rfl, rfl, rfl⟩ (fun lv20 hlv20 => ?_)
          refine h_iload_n (pc' := 1) rfl rfl rfl ?_
          refine h_iconst (pc' := 2) (x := (Int32.ofInt 3)) rfl rfl rfl ?_
          refine h_cgt (tg := 61) (pc' := 5) rfl rfl rfl hy1 ci_3 (fun c21 => ?_) (fun c21 => absurd c21 (by omega))
          refine h_iload_n (pc' := 62) rfl rfl rfl ?_
          refine h_iconst (pc' := 63) (x := (Int32.ofInt 4)) rfl rfl rfl ?_
          refine h_cne (tg := 82) (pc' := 66) rfl rfl rfl hy1 ci_4 (fun c22 => absurd c22 (by omega)) (fun c22 => ?_)
          refine h_aload_n (pc' := 67) rfl rfl rfl ?_
          refine h_bipush (pc' := 69) (x := (Int32.ofInt 12)) rfl rfl cb_12 ?_
          refine h_aload_n (pc' := 70) rfl rfl rfl ?_
          refine h_getR (pc' := 73) rfl rfl rfl rfl rfl ?_
          refine h_bipush (pc' := 75) (x := (Int32.ofInt 18)) rfl rfl cb_18 ?_
          refine h_iald (pc' := 76) (v := σ2 101 18) rfl rfl rfl ci_18 (by omega) (by omega) etq17_11 (fun z23 hz23 => ?_)
          refine d_call (g_inj ns) (pc' := 79) (m := 151) (M := [(0, .ref 98), (1, .int (Int32.ofInt 12)), (2, .int z23)]) (rest := []) ⟨false, _, _, _, _, _, _, rfl, rfl, rfl, rfl, rfl, rfl, rfl⟩ (fun lv24 hlv24 => ?_)
          refine d_toL (g_inj ns) hlw6 hRq17 (fun lvw25 memw25 hlw25 hRw25 => ?_)
          show h_T g_P (g_Y ns) 57 20 [(0, .ref 63), (1, .int (Int32.ofInt 0))] [] sq17 _
          refine h_vret rfl rfl (d_retn hlv4 ?_)
          refine h_wk [(0, .ref 63), (1, .ref 69)] ⟨rfl, rfl, trivial⟩ (ls_mar_b Isq17 Itq17 (hTL.fr (Fsq17.mono rfl) (Ftq17.mono rfl))  z23 _ hz23 (by omega) (by omega) (by omega) (by omega) (by omega) (by omega) (by omega) (by omega) (by omega) (by omega) (d_mk ((Gsq17 66 8 rfl)) ((Gsq17 66 9 rfl)) ((Gsq17 66 10 rfl)) ((Gsq17 69 2 rfl)) ((Gsq17 72 2 rfl)) ((Gsq17 63 5 rfl)) (fun j => (Gsq17 67 j rfl)) (fun j => (Gsq17 68 j rfl)) (fun j => (Gsq17 70 j rfl)) (fun j => (Gsq17 71 j rfl)) (fun j => (Gsq17 73 j rfl)) (fun j => (Gsq17 74 j rfl)) (fun j => (Gsq17 75 j rfl)) (fun j => (Gsq17 76 j rfl)) (fun j => (Gsq17 77 j rfl)) (fun j => (Gsq17 78 j rfl)) ((Gtq17 98 5 rfl).trans (h_upd es16.2.2.2.2.2.2.2.2.2.2.2.2.2.2 (by decide))) ((Gtq17 98 6 rfl).trans (h_upd es16.2.2.2.2.2.2.2.2.2.2.2.2.2.2 (by decide))) (by omega) ((Gtq17 98 8 rfl).trans (h_upd es16.2.2.2.2.2.2.2.2.2.2.2.2.2.2 (by decide))) ((Gtq17 98 9 rfl).trans (h_upd es16.2.2.2.2.2.2.2.2.2.2.2.2.2.2 (by decide))) (fun j => (Gtq17 101 j rfl).trans (h_upo es16.2.2.2.2.2.2.2.2.2.2.2.2.2.2 rfl j)) (pr10)) (by omega) (pcq17.elim (fun pcq17 => (by exfalso; omega)) (fun pcq17 => (pcq17.elim (fun pcq17 => (Or.inl ⟨by omega, by omega, by omega, by omega, by omega, by omega, by omega⟩)) (fun pcq17 => (pcq17.elim (fun pcq17 => (Or.inr (Or.inl ⟨by omega, by omega, by omega, by omega, by omega, by omega, by omega⟩))) (fun pcq17 => (pcq17.elim (fun pcq17 => (Or.inr (Or.inr (Or.inl ⟨by omega, by omega, by omega, by omega, by omega, by omega, by omega, by omega, by omega, by omega⟩)))) (fun pcq17 => (Or.inr (Or.inr (Or.inr ⟨by omega, by omega, by omega, by omega, by omega, by omega, by omega⟩))))))))))) (fun sq26 tq26 Isq26 Itq26 Gsq26 Gtq26   yq26_0 yq26_1 yq26_2 yq26_3 yq26_4 yq26_5 pcq26 lvq26 memq26 hlq26 hRq26 => ?_) _ _ (h_al_ok ⟨rfl, rfl, rfl, trivial⟩ hlw25) hRw25)
          · have Fsq26 := (Gsq26.mono (B := k_pl) rfl).tr Fsq17
            have Ftq26 := (Gtq26.mono (B := k_pm) rfl).tr Ftq17
            have Isq26 := Isq26
            have Itq26 := Itq26
            have Gsq26 := Gsq26
            have Gtq26 := Gtq26
            have esq26_6 : sq26 64 1 = σ1 64 1 := (Gsq26 64 1 rfl).trans esq17_6
            rcases pcq26 with pcq26 | pcq26
            · show h_T g_P (g_Y ns) 60 64 [(0, .ref 63)] [] sq26 _
              clear hz23
              refine h_vret rfl rfl (d_retn hlv1 ?_)
              refine h_goto (pc' := 150) rfl rfl ?_
              refine h_aload_n (pc' := 151) rfl rfl rfl ?_
              refine h_getI (pc' := 154) (v := sq26 63 2) rfl rfl rfl rfl rfl rfl (fun z27 hz27 => ?_)
              have tz27 := tf_63_2 Isq26
              refine h_zne (tg := 180) (pc' := 157) rfl rfl rfl hz27 (fun c28 => ?_) (fun c28 => absurd c28 (by omega))
              clear hz27
              refine d_toM (g_inj ns) hlq26 hRq26 (fun lvw29 memw29 hlw29 hRw29 => ?_)
              show h_T g_P (g_Y ns) 151 73 [(0, .ref 98)] [] tq26 _
              refine h_vret rfl rfl (d_retn hlv24 ?_)
              refine h_goto (pc' := 178) rfl rfl ?_
              refine h_vret rfl rfl (d_retn hlv20 ?_)
              refine h_aload_n (pc' := 146) rfl rfl rfl ?_
              refine h_getI (pc' := 149) (v := tq26 98 13) rfl rfl rfl rfl rfl rfl (fun z30 hz30 => ?_)
              have tz30 := tf_98_13 Itq26
              refine h_zne (tg := 165) (pc' := 152) rfl rfl rfl hz30 (fun c31 => ?_) (fun c31 => absurd c31 (by omega))
              clear hz30
              refine d_toL (g_inj ns) hlw29 hRw29 (fun lvw32 memw32 hlw32 hRw32 => ?_)
              show h_T g_P (g_Y ns) 56 180 [(0, .ref 63), (1, .int x1)] [] sq26 _
              exact h_wk [(0, .ref 63)] ⟨rfl, trivial⟩ (kx0 _ _ Isq26 Itq26 Fsq26 Ftq26 (by omega) (by omega) (by omega) (by omega) (by omega) (fun h => absurd h (by omega)) (Or.inl ⟨by omega, by omega, by omega, by omega⟩) _ _ (h_al_ok ⟨rfl, trivial⟩ hlw32) hRw32)
            · show h_T g_P (g_Y ns) 60 64 [(0, .ref 63)] [] sq26 _
              clear hz23
              refine h_vret rfl rfl (d_retn hlv1 ?_)
              refine h_goto (pc' := 150) rfl rfl ?_
              refine d_toM (g_inj ns) hlq26 hRq26 (fun lvw33 memw33 hlw33 hRw33 => ?_)
              show h_T g_P (g_Y ns) 151 73 [(0, .ref 98)] [] tq26 _
              refine h_vret rfl rfl (d_retn hlv24 ?_)
              refine h_goto (pc' := 178) rfl rfl ?_
              refine h_vret rfl rfl (d_retn hlv20 ?_)
              refine d_toL (g_inj ns) hlw33 hRw33 (fun lvw34 memw34 hlw34 hRw34 => ?_)
              show h_T g_P (g_Y ns) 56 150 [(0, .ref 63), (1, .int x1)] [] sq26 _
              refine h_wk [(0, .ref 63)] ⟨rfl, trivial⟩ (ls_sc Isq26 Itq26 (hTL.fr (Fsq26.mono rfl) (Ftq26.mono rfl))   (by omega) (by omega) (by omega) (by omega) (yq26_5) (pcq26.elim (fun pcq26 => (Or.inl ⟨by omega, by omega, by omega, by omega, by omega⟩)) (fun pcq26 => (pcq26.elim (fun pcq26 => (Or.inr (Or.inl ⟨by omega, by omega, by omega, by omega, by omega⟩))) (fun pcq26 => (pcq26.elim (fun pcq26 => (Or.inr (Or.inr (Or.inl ⟨by omega, by omega, by omega, by omega, by omega, by omega, by omega, by omega⟩)))) (fun pcq26 => (Or.inr (Or.inr (Or.inr ⟨by omega, by omega, by omega, by omega, by omega⟩))))))))) (fun sq35 tq35 Isq35 Itq35 Gsq35 Gtq35   yq35_0 yq35_1 yq35_2 yq35_3 yq35_4 yq35_5 pcq35 lvq35 memq35 hlq35 hRq35 => ?_) _ _ (h_al_ok ⟨rfl, trivial⟩ hlw34) hRw34)
              · have Fsq35 := (Gsq35.mono (B := k_pl) rfl).tr Fsq26
                have Ftq35 := (Gtq35.mono (B := k_pm) rfl).tr Ftq26
                have Isq35 := Isq35
                have Itq35 := Itq35
                have Gsq35 := Gsq35
                have Gtq35 := Gtq35
                have esq35_6 : sq35 64 1 = σ1 64 1 := (Gsq35 64 1 rfl).trans esq26_6
                rcases pcq35 with pcq35 | pcq35
                · show h_T g_P (g_Y ns) 56 180 [(0, .ref 63)] [] sq35 _
                  refine d_toM (g_inj ns) hlq35 hRq35 (fun lvw36 memw36 hlw36 hRw36 => ?_)
                  show h_T g_P (g_Y ns) 154 165 [(0, .ref 98)] [] tq35 _
                  refine d_toL (g_inj ns) hlw36 hRw36 (fun lvw37 memw37 hlw37 hRw37 => ?_)
                  show h_T g_P (g_Y ns) 56 180 [(0, .ref 63)] [] sq35 _
                  exact h_wk [(0, .ref 63)] ⟨rfl, trivial⟩ (kx0 _ _ Isq35 Itq35 Fsq35 Ftq35 (by omega) (by omega) (by omega) (by omega) (by omega) (fun h => absurd h (by omega)) (Or.inl ⟨by omega, by omega, by omega, by omega⟩) _ _ (h_al_ok ⟨rfl, trivial⟩ hlw37) hRw37)
                · show h_T g_P (g_Y ns) 56 180 [(0, .ref 63)] [] sq35 _
                  refine d_toM (g_inj ns) hlq35 hRq35 (fun lvw38 memw38 hlw38 hRw38 => ?_)
                  show h_T g_P (g_Y ns) 154 165 [(0, .ref 98)] [] tq35 _
                  refine d_toL (g_inj ns) hlw38 hRw38 (fun lvw39 memw39 hlw39 hRw39 => ?_)
                  show h_T g_P (g_Y ns) 56 180 [(0, .ref 63)] [] sq35 _
                  exact h_wk [(0, .ref 63)] ⟨rfl, trivial⟩ (kx0 _ _ Isq35 Itq35 Fsq35 Ftq35 (by omega) (by omega) (by omega) (by omega) (by omega) (yq35_5) (Or.inr ⟨by omega, by omega, by omega, by omega, by omega, by omega⟩) _ _ (h_al_ok ⟨rfl, trivial⟩ hlw39) hRw39)
        · clear hz18
          refine d_toL (g_inj ns) hlw6 hRq17 (fun lvw40 memw40 hlw40 hRw40 => ?_)
          show h_T g_P (g_Y ns) 57 20 [(0, .ref 63), (1, .int (Int32.ofInt 0))] [] sq17 _
          refine h_vret rfl rfl (d_retn hlv4 ?_)
          refine h_aload_n (pc' := 9) rfl rfl rfl ?_
          refine h_iconst (pc' := 10) (x := (Int32.ofInt 5)) rfl rfl rfl ?_
          refine h_call (sp := false) (pc' := 13) (M := [(0, .ref 63), (1, .int (Int32.ofInt 5))]) rfl rfl rfl rfl rfl rfl rfl rfl ?_
          refine h_aload_n (pc' := 1) rfl rfl rfl ?_
          refine h_getI (pc' := 4) (v := sq17 63 2) rfl rfl rfl rfl rfl rfl (fun z41 hz41 => ?_)
          have tz41 := tf_63_2 Isq17
          refine h_zne (tg := 30) (pc' := 7) rfl rfl rfl hz41 (fun c42 => ?_) (fun c42 => absurd c42 (by omega))
          clear hz41
          refine h_aload_n (pc' := 31) rfl rfl rfl ?_
          refine h_getI (pc' := 34) (v := sq17 63 2) rfl rfl rfl rfl rfl rfl (fun z43 hz43 => ?_)
          refine h_zne (tg := 60) (pc' := 37) rfl rfl rfl hz43 (fun c44 => ?_) (fun c44 => absurd c44 (by omega))
          clear hz43
          refine h_aload_n (pc' := 61) rfl rfl rfl ?_
          refine h_getR (pc' := 64) rfl rfl rfl rfl rfl ?_
          refine h_getI (pc' := 67) (v := sq17 64 5) rfl rfl rfl rfl rfl rfl (fun z45 hz45 => ?_)
          have tz45 := tf_64_5 Isq17
          refine h_istore_n (pc' := 68) (M := [(2, .int z45), (0, .ref 63), (1, .int (Int32.ofInt 5))]) rfl rfl rfl rfl ?_
          refine h_aload_n (pc' := 69) rfl rfl rfl ?_
          refine h_call (sp := false) (pc' := 72) (M := [(0, .ref 63)]) rfl rfl rfl rfl rfl rfl rfl rfl ?_
          refine h_aload_n (pc' := 1) rfl rfl rfl ?_
          refine h_getI (pc' := 4) (v := sq17 63 2) rfl rfl rfl rfl rfl rfl (fun z46 hz46 => ?_)
          refine h_zne (tg := 37) (pc' := 7) rfl rfl rfl hz46 (fun c47 => ?_) (fun c47 => absurd c47 (by omega))
          clear hz46
          refine h_vret rfl rfl (h_Kn ?_)
          refine h_iload_n (pc' := 73) rfl rfl rfl ?_
          refine h_iret rfl rfl (h_Kv ?_)
          refine h_istore_n (pc' := 14) (M := [(2, .int z45), (0, .ref 63), (1, .ref 69)]) rfl rfl rfl rfl ?_
          refine h_aload_n (pc' := 15) rfl rfl rfl ?_
          refine h_call (sp := false) (pc' := 18) (M := [(0, .ref 63)]) rfl rfl rfl rfl rfl rfl rfl rfl ?_
          refine h_aload_n (pc' := 1) rfl rfl rfl ?_
          refine h_getI (pc' := 4) (v := sq17 63 2) rfl rfl rfl rfl rfl rfl (fun z48 hz48 => ?_)
          refine h_zne (tg := 22) (pc' := 7) rfl rfl rfl hz48 (fun c49 => ?_) (fun c49 => absurd c49 (by omega))
          clear hz48
          refine h_iconst (pc' := 23) (x := (Int32.ofInt 0)) rfl rfl rfl ?_
          refine h_zret rfl rfl ci_0 (by omega) (h_Kv ?_)
          refine h_zeq (tg := 44) (pc' := 21) rfl rfl rfl ci_0 (fun c50 => ?_) (fun c50 => absurd c50 (by omega))
          refine h_aload_n (pc' := 45) rfl rfl rfl ?_
          refine h_iconst (pc' := 46) (x := (Int32.ofInt 5)) rfl rfl rfl ?_
          refine h_call (sp := false) (pc' := 49) (M := [(0, .ref 63), (1, .int (Int32.ofInt 5))]) rfl rfl rfl rfl rfl rfl rfl rfl ?_
          refine h_aload_n (pc' := 1) rfl rfl rfl ?_
          refine h_getI (pc' := 4) (v := sq17 63 2) rfl rfl rfl rfl rfl rfl (fun z51 hz51 => ?_)
          refine h_zne (tg := 30) (pc' := 7) rfl rfl rfl hz51 (fun c52 => ?_) (fun c52 => absurd c52 (by omega))
          clear hz51
          refine h_aload_n (pc' := 31) rfl rfl rfl ?_
          refine h_getI (pc' := 34) (v := sq17 63 2) rfl rfl rfl rfl rfl rfl (fun z53 hz53 => ?_)
          refine h_zne (tg := 60) (pc' := 37) rfl rfl rfl hz53 (fun c54 => ?_) (fun c54 => absurd c54 (by omega))
          clear hz53
          refine h_aload_n (pc' := 61) rfl rfl rfl ?_
          refine h_getR (pc' := 64) rfl rfl rfl rfl rfl ?_
          refine h_getI (pc' := 67) (v := sq17 64 5) rfl rfl rfl rfl rfl rfl (fun z55 hz55 => ?_)
          refine h_istore_n (pc' := 68) (M := [(2, .int z55), (0, .ref 63), (1, .int (Int32.ofInt 5))]) rfl rfl rfl rfl ?_
          refine h_aload_n (pc' := 69) rfl rfl rfl ?_
          refine h_call (sp := false) (pc' := 72) (M := [(0, .ref 63)]) rfl rfl rfl rfl rfl rfl rfl rfl ?_
          refine h_aload_n (pc' := 1) rfl rfl rfl ?_
          refine h_getI (pc' := 4) (v := sq17 63 2) rfl rfl rfl rfl rfl rfl (fun z56 hz56 => ?_)
          refine h_zne (tg := 37) (pc' := 7) rfl rfl rfl hz56 (fun c57 => ?_) (fun c57 => absurd c57 (by omega))
          clear hz56
          refine h_vret rfl rfl (h_Kn ?_)
          refine h_iload_n (pc' := 73) rfl rfl rfl ?_
          refine h_iret rfl rfl (h_Kv ?_)
          refine h_istore_n (pc' := 50) (M := [(3, .int z55), (2, .int z45), (0, .ref 63), (1, .ref 69)]) rfl rfl rfl rfl ?_
          refine h_aload_n (pc' := 51) rfl rfl rfl ?_
          refine h_getI (pc' := 54) (v := sq17 63 2) rfl rfl rfl rfl rfl rfl (fun z58 hz58 => ?_)
          refine h_zne (tg := 64) (pc' := 57) rfl rfl rfl hz58 (fun c59 => ?_) (fun c59 => absurd c59 (by omega))
          clear hz58
          refine h_vret rfl rfl (d_retn hlv1 ?_)
          clear hz45 hz55
          refine h_goto (pc' := 150) rfl rfl ?_
          refine h_aload_n (pc' := 151) rfl rfl rfl ?_
          refine h_getI (pc' := 154) (v := sq17 63 2) rfl rfl rfl rfl rfl rfl (fun z60 hz60 => ?_)
          refine h_zne (tg := 180) (pc' := 157) rfl rfl rfl hz60 (fun c61 => ?_) (fun c61 => absurd c61 (by omega))
          clear hz60
          exact h_wk [(0, .ref 63)] ⟨rfl, trivial⟩ (kx1 _ _ Isq17 Itq17 Fsq17 Ftq17 (by omega) (by omega) (by omega) (by omega) (by omega) (pcq17.elim (fun pcq17 => ⟨by omega, by omega, by omega, by omega⟩) (fun pcq17 => (pcq17.elim (fun pcq17 => (by exfalso; omega)) (fun pcq17 => (pcq17.elim (fun pcq17 => (by exfalso; omega)) (fun pcq17 => (pcq17.elim (fun pcq17 => (by exfalso; omega)) (fun pcq17 => (by exfalso; omega))))))))) _ _ (h_al_ok ⟨rfl, trivial⟩ hlw40) hRw40)
      · clear hz14
        refine h_iload_n (pc' := 115) rfl rfl rfl ?_
        refine h_bipush (pc' := 117) (x := (Int32.ofInt 7)) rfl rfl cb_7 ?_
        refine h_cne (tg := 124) (pc' := 120) rfl rfl rfl hy1 ci_7 (fun c62 => ?_) (fun c62 => absurd c62 (by omega))
        refine h_iconst (pc' := 125) (x := (Int32.ofInt 0)) rfl rfl rfl ?_
        refine h_put (pc' := 128) rfl rfl rfl rfl rfl rfl ci_0 (h_fb ci_0 (by omega)) (h_fgt (E := fun s => s 98 15 = σ2 98 15 ∧ s 98 16 = σ2 98 16 ∧ s 98 17 = σ2 98 17 ∧ s 98 18 = σ2 98 18 ∧ s 98 13 = σ2 98 13 ∧ s 98 14 = σ2 98 14 ∧ s 98 5 = σ2 98 5 ∧ s 98 6 = σ2 98 6 ∧ s 98 7 = 0 ∧ s 98 8 = σ2 98 8 ∧ s 98 9 = σ2 98 9 ∧ s 101 18 = σ2 101 18 ∧ s 101 25 = σ2 101 25 ∧ s 101 43 = σ2 101 43 ∧ s = h_up σ2 98 7 0) _ (if_98_7 hI2 (by omega)) (F2.up rfl) ⟨rfl, rfl, rfl, rfl, rfl, rfl, rfl, rfl, rfl, rfl, rfl, rfl, rfl, rfl, rfl⟩ (fun s63 Is63 Fs63 (es63 : s63 98 15 = σ2 98 15 ∧ s63 98 16 = σ2 98 16 ∧ s63 98 17 = σ2 98 17 ∧ s63 98 18 = σ2 98 18 ∧ s63 98 13 = σ2 98 13 ∧ s63 98 14 = σ2 98 14 ∧ s63 98 5 = σ2 98 5 ∧ s63 98 6 = σ2 98 6 ∧ s63 98 7 = 0 ∧ s63 98 8 = σ2 98 8 ∧ s63 98 9 = σ2 98 9 ∧ s63 101 18 = σ2 101 18 ∧ s63 101 25 = σ2 101 25 ∧ s63 101 43 = σ2 101 43 ∧ s63 = h_up σ2 98 7 0) => ?_))
        refine h_aload_n (pc' := 129) rfl rfl rfl ?_
        refine d_pcall (g_inj ns) (m1 := 54) (pc1' := 20) (M1 := [(0, .ref 63)]) (rest1 := []) (m2 := 148) (pc2' := 132) (M2 := [(0, .ref 98)]) (rest2 := []) ⟨false, _, _, _, _, _, _, rfl, rfl, rfl, rfl, rfl, rfl, rfl⟩ ⟨false, _, _, _, _, _, _, rfl, rfl, rfl, rfl, rfl, rfl, rfl⟩ hRw6 ?_
        refine pp_step hI1 Is63 (hTL.fr (F1.mono rfl) (Fs63.mono rfl)) (by omega) (by omega) (by omega) (by omega) (Or.inr ⟨by omega, by omega⟩) (fun sq64 tq64 Isq64 Itq64 Gsq64 Gtq64 yq64_0 yq64_1 yq64_2 yq64_3 yq64_4 pcq64 memq64 hRq64 => ?_)
        have Fsq64 := (Gsq64.mono (B := k_pl) rfl).tr F1
        have Ftq64 := (Gtq64.mono (B := k_pm) rfl).tr Fs63
        have esq64_6 : sq64 64 1 = σ1 64 1 := (Gsq64 64 1 rfl).trans rfl
        have esq64_7 : sq64 66 8 = σ1 66 8 := (Gsq64 66 8 rfl).trans rfl
        have esq64_8 : sq64 66 9 = σ1 66 9 := (Gsq64 66 9 rfl).trans rfl
        have esq64_9 : sq64 66 10 = σ1 66 10 := (Gsq64 66 10 rfl).trans rfl
        have esq64_10 : sq64 69 2 = σ1 69 2 := (Gsq64 69 2 rfl).trans rfl
        have esq64_11 : sq64 72 2 = σ1 72 2 := (Gsq64 72 2 rfl).trans rfl
        have esq64_12 : sq64 63 5 = σ1 63 5 := (Gsq64 63 5 rfl).trans rfl
        have etq64_6 : tq64 98 5 = σ2 98 5 := (Gtq64 98 5 rfl).trans es63.2.2.2.2.2.2.1
        have etq64_7 : tq64 98 6 = σ2 98 6 := (Gtq64 98 6 rfl).trans es63.2.2.2.2.2.2.2.1
        have etq64_8 : tq64 98 7 = 0 := (Gtq64 98 7 rfl).trans es63.2.2.2.2.2.2.2.2.1
        have etq64_9 : tq64 98 8 = σ2 98 8 := (Gtq64 98 8 rfl).trans es63.2.2.2.2.2.2.2.2.2.1
        have etq64_10 : tq64 98 9 = σ2 98 9 := (Gtq64 98 9 rfl).trans es63.2.2.2.2.2.2.2.2.2.2.1
        have etq64_11 : tq64 101 18 = σ2 101 18 := (Gtq64 101 18 rfl).trans es63.2.2.2.2.2.2.2.2.2.2.2.1
        have etq64_12 : tq64 101 25 = σ2 101 25 := (Gtq64 101 25 rfl).trans es63.2.2.2.2.2.2.2.2.2.2.2.2.1
        have etq64_13 : tq64 101 43 = σ2 101 43 := (Gtq64 101 43 rfl).trans es63.2.2.2.2.2.2.2.2.2.2.2.2.2.1
        show h_T g_P (g_Y ns) 154 132 [(0, .ref 98), (1, .int y1)] [] tq64 _
        refine h_aload_n (pc' := 133) rfl rfl rfl ?_
        refine h_getI (pc' := 136) (v := tq64 98 13) rfl rfl rfl rfl rfl rfl (fun z65 hz65 => ?_)
        have tz65 := tf_98_13 Itq64
        refine h_zle (tg := 140) (pc' := 139) rfl rfl rfl hz65 (fun c66 => ?_) (fun c66 => ?_)
        · clear hz65
          refine h_aload_n (pc' := 141) rfl rfl rfl ?_
          refine h_iload_n (pc' := 142) rfl rfl rfl ?_
          refine d_call (g_inj ns) (pc' := 145) (m := 153) (M := [(0, .ref 98), (1, .int y1)]) (rest := []) ⟨false, _, _, _, _, _, _, rfl, rfl, rfl, rfl, rfl, rfl, rfl⟩ (fun lv67 hlv67 => ?_)
          refine h_iload_n (pc' := 1) rfl rfl rfl ?_
          refine h_iconst (pc' := 2) (x := (Int32.ofInt 3)) rfl rfl rfl ?_
          refine h_cgt (tg := 61) (pc' := 5) rfl rfl rfl hy1 ci_3 (fun c68 => ?_) (fun c68 => absurd c68 (by omega))
          refine h_iload_n (pc' := 62) rfl rfl rfl ?_
          refine h_iconst (pc' := 63) (x := (Int32.ofInt 4)) rfl rfl rfl ?_
          refine h_cne (tg := 82) (pc' := 66) rfl rfl rfl hy1 ci_4 (fun c69 => absurd c69 (by omega)) (fun c69 => ?_)
          refine h_aload_n (pc' := 67) rfl rfl rfl ?_
          refine h_bipush (pc' := 69) (x := (Int32.ofInt 12)) rfl rfl cb_12 ?_
          refine h_aload_n (pc' := 70) rfl rfl rfl ?_
          refine h_getR (pc' := 73) rfl rfl rfl rfl rfl ?_
          refine h_bipush (pc' := 75) (x := (Int32.ofInt 18)) rfl rfl cb_18 ?_
          refine h_iald (pc' := 76) (v := σ2 101 18) rfl rfl rfl ci_18 (by omega) (by omega) etq64_11 (fun z70 hz70 => ?_)
          refine d_call (g_inj ns) (pc' := 79) (m := 151) (M := [(0, .ref 98), (1, .int (Int32.ofInt 12)), (2, .int z70)]) (rest := []) ⟨false, _, _, _, _, _, _, rfl, rfl, rfl, rfl, rfl, rfl, rfl⟩ (fun lv71 hlv71 => ?_)
          refine d_toL (g_inj ns) hlw6 hRq64 (fun lvw72 memw72 hlw72 hRw72 => ?_)
          show h_T g_P (g_Y ns) 57 20 [(0, .ref 63), (1, .int (Int32.ofInt 0))] [] sq64 _
          refine h_vret rfl rfl (d_retn hlv4 ?_)
          refine h_wk [(0, .ref 63), (1, .ref 69)] ⟨rfl, rfl, trivial⟩ (ls_mar_b Isq64 Itq64 (hTL.fr (Fsq64.mono rfl) (Ftq64.mono rfl))  z70 _ hz70 (by omega) (by omega) (by omega) (by omega) (by omega) (by omega) (by omega) (by omega) (by omega) (by omega) (d_mk ((Gsq64 66 8 rfl)) ((Gsq64 66 9 rfl)) ((Gsq64 66 10 rfl)) ((Gsq64 69 2 rfl)) ((Gsq64 72 2 rfl)) ((Gsq64 63 5 rfl)) (fun j => (Gsq64 67 j rfl)) (fun j => (Gsq64 68 j rfl)) (fun j => (Gsq64 70 j rfl)) (fun j => (Gsq64 71 j rfl)) (fun j => (Gsq64 73 j rfl)) (fun j => (Gsq64 74 j rfl)) (fun j => (Gsq64 75 j rfl)) (fun j => (Gsq64 76 j rfl)) (fun j => (Gsq64 77 j rfl)) (fun j => (Gsq64 78 j rfl)) ((Gtq64 98 5 rfl).trans (h_upd es63.2.2.2.2.2.2.2.2.2.2.2.2.2.2 (by decide))) ((Gtq64 98 6 rfl).trans (h_upd es63.2.2.2.2.2.2.2.2.2.2.2.2.2.2 (by decide))) (by omega) ((Gtq64 98 8 rfl).trans (h_upd es63.2.2.2.2.2.2.2.2.2.2.2.2.2.2 (by decide))) ((Gtq64 98 9 rfl).trans (h_upd es63.2.2.2.2.2.2.2.2.2.2.2.2.2.2 (by decide))) (fun j => (Gtq64 101 j rfl).trans (h_upo es63.2.2.2.2.2.2.2.2.2.2.2.2.2.2 rfl j)) (pr10)) (by omega) (pcq64.elim (fun pcq64 => (by exfalso; omega)) (fun pcq64 => (pcq64.elim (fun pcq64 => (Or.inl ⟨by omega, by omega, by omega, by omega, by omega, by omega, by omega⟩)) (fun pcq64 => (pcq64.elim (fun pcq64 => (Or.inr (Or.inl ⟨by omega, by omega, by omega, by omega, by omega, by omega, by omega⟩))) (fun pcq64 => (pcq64.elim (fun pcq64 => (Or.inr (Or.inr (Or.inl ⟨by omega, by omega, by omega, by omega, by omega, by omega, by omega, by omega, by omega, by omega⟩)))) (fun pcq64 => (Or.inr (Or.inr (Or.inr ⟨by omega, by omega, by omega, by omega, by omega, by omega, by omega⟩))))))))))) (fun sq73 tq73 Isq73 Itq73 Gsq73 Gtq73   yq73_0 yq73_1 yq73_2 yq73_3 yq73_4 yq73_5 pcq73 lvq73 memq73 hlq73 hRq73 => ?_) _ _ (h_al_ok ⟨rfl, rfl, rfl, trivial⟩ hlw72) hRw72)
          · have Fsq73 := (Gsq73.mono (B := k_pl) rfl).tr Fsq64
            have Ftq73 := (Gtq73.mono (B := k_pm) rfl).tr Ftq64
            have Isq73 := Isq73
            have Itq73 := Itq73
            have Gsq73 := Gsq73
            have Gtq73 := Gtq73
            have esq73_6 : sq73 64 1 = σ1 64 1 := (Gsq73 64 1 rfl).trans esq64_6
            rcases pcq73 with pcq73 | pcq73
            · show h_T g_P (g_Y ns) 60 64 [(0, .ref 63)] [] sq73 _
              clear hz70
              refine h_vret rfl rfl (d_retn hlv1 ?_)
              refine h_goto (pc' := 150) rfl rfl ?_
              refine h_aload_n (pc' := 151) rfl rfl rfl ?_
              refine h_getI (pc' := 154) (v := sq73 63 2) rfl rfl rfl rfl rfl rfl (fun z74 hz74 => ?_)
              have tz74 := tf_63_2 Isq73
              refine h_zne (tg := 180) (pc' := 157) rfl rfl rfl hz74 (fun c75 => ?_) (fun c75 => absurd c75 (by omega))
              clear hz74
              refine d_toM (g_inj ns) hlq73 hRq73 (fun lvw76 memw76 hlw76 hRw76 => ?_)
              show h_T g_P (g_Y ns) 151 73 [(0, .ref 98)] [] tq73 _
              refine h_vret rfl rfl (d_retn hlv71 ?_)
              refine h_goto (pc' := 178) rfl rfl ?_
              refine h_vret rfl rfl (d_retn hlv67 ?_)
              refine h_aload_n (pc' := 146) rfl rfl rfl ?_
              refine h_getI (pc' := 149) (v := tq73 98 13) rfl rfl rfl rfl rfl rfl (fun z77 hz77 => ?_)
              have tz77 := tf_98_13 Itq73
              refine h_zne (tg := 165) (pc' := 152) rfl rfl rfl hz77 (fun c78 => ?_) (fun c78 => absurd c78 (by omega))
              clear hz77
              refine d_toL (g_inj ns) hlw76 hRw76 (fun lvw79 memw79 hlw79 hRw79 => ?_)
              show h_T g_P (g_Y ns) 56 180 [(0, .ref 63), (1, .int x1)] [] sq73 _
              exact h_wk [(0, .ref 63)] ⟨rfl, trivial⟩ (kx0 _ _ Isq73 Itq73 Fsq73 Ftq73 (by omega) (by omega) (by omega) (by omega) (by omega) (fun h => absurd h (by omega)) (Or.inl ⟨by omega, by omega, by omega, by omega⟩) _ _ (h_al_ok ⟨rfl, trivial⟩ hlw79) hRw79)
            · show h_T g_P (g_Y ns) 60 64 [(0, .ref 63)] [] sq73 _
              clear hz70
              refine h_vret rfl rfl (d_retn hlv1 ?_)
              refine h_goto (pc' := 150) rfl rfl ?_
              refine d_toM (g_inj ns) hlq73 hRq73 (fun lvw80 memw80 hlw80 hRw80 => ?_)
              show h_T g_P (g_Y ns) 151 73 [(0, .ref 98)] [] tq73 _
              refine h_vret rfl rfl (d_retn hlv71 ?_)
              refine h_goto (pc' := 178) rfl rfl ?_
              refine h_vret rfl rfl (d_retn hlv67 ?_)
              refine d_toL (g_inj ns) hlw80 hRw80 (fun lvw81 memw81 hlw81 hRw81 => ?_)
              show h_T g_P (g_Y ns) 56 150 [(0, .ref 63), (1, .int x1)] [] sq73 _
              refine h_wk [(0, .ref 63)] ⟨rfl, trivial⟩ (ls_sc Isq73 Itq73 (hTL.fr (Fsq73.mono rfl) (Ftq73.mono rfl))   (by omega) (by omega) (by omega) (by omega) (yq73_5) (pcq73.elim (fun pcq73 => (Or.inl ⟨by omega, by omega, by omega, by omega, by omega⟩)) (fun pcq73 => (pcq73.elim (fun pcq73 => (Or.inr (Or.inl ⟨by omega, by omega, by omega, by omega, by omega⟩))) (fun pcq73 => (pcq73.elim (fun pcq73 => (Or.inr (Or.inr (Or.inl ⟨by omega, by omega, by omega, by omega, by omega, by omega, by omega, by omega⟩)))) (fun pcq73 => (Or.inr (Or.inr (Or.inr ⟨by omega, by omega, by omega, by omega, by omega⟩))))))))) (fun sq82 tq82 Isq82 Itq82 Gsq82 Gtq82   yq82_0 yq82_1 yq82_2 yq82_3 yq82_4 yq82_5 pcq82 lvq82 memq82 hlq82 hRq82 => ?_) _ _ (h_al_ok ⟨rfl, trivial⟩ hlw81) hRw81)
              · have Fsq82 := (Gsq82.mono (B := k_pl) rfl).tr Fsq73
                have Ftq82 := (Gtq82.mono (B := k_pm) rfl).tr Ftq73
                have Isq82 := Isq82
                have Itq82 := Itq82
                have Gsq82 := Gsq82
                have Gtq82 := Gtq82
                have esq82_6 : sq82 64 1 = σ1 64 1 := (Gsq82 64 1 rfl).trans esq73_6
                rcases pcq82 with pcq82 | pcq82
                · show h_T g_P (g_Y ns) 56 180 [(0, .ref 63)] [] sq82 _
                  refine d_toM (g_inj ns) hlq82 hRq82 (fun lvw83 memw83 hlw83 hRw83 => ?_)
                  show h_T g_P (g_Y ns) 154 165 [(0, .ref 98)] [] tq82 _
                  refine d_toL (g_inj ns) hlw83 hRw83 (fun lvw84 memw84 hlw84 hRw84 => ?_)
                  show h_T g_P (g_Y ns) 56 180 [(0, .ref 63)] [] sq82 _
                  exact h_wk [(0, .ref 63)] ⟨rfl, trivial⟩ (kx0 _ _ Isq82 Itq82 Fsq82 Ftq82 (by omega) (by omega) (by omega) (by omega) (by omega) (fun h => absurd h (by omega)) (Or.inl ⟨by omega, by omega, by omega, by omega⟩) _ _ (h_al_ok ⟨rfl, trivial⟩ hlw84) hRw84)
                · show h_T g_P (g_Y ns) 56 180 [(0, .ref 63)] [] sq82 _
                  refine d_toM (g_inj ns) hlq82 hRq82 (fun lvw85 memw85 hlw85 hRw85 => ?_)
                  show h_T g_P (g_Y ns) 154 165 [(0, .ref 98)] [] tq82 _
                  refine d_toL (g_inj ns) hlw85 hRw85 (fun lvw86 memw86 hlw86 hRw86 => ?_)
                  show h_T g_P (g_Y ns) 56 180 [(0, .ref 63)] [] sq82 _
                  exact h_wk [(0, .ref 63)] ⟨rfl, trivial⟩ (kx0 _ _ Isq82 Itq82 Fsq82 Ftq82 (by omega) (by omega) (by omega) (by omega) (by omega) (yq82_5) (Or.inr ⟨by omega, by omega, by omega, by omega, by omega, by omega⟩) _ _ (h_al_ok ⟨rfl, trivial⟩ hlw86) hRw86)
        · clear hz65
          refine d_toL (g_inj ns) hlw6 hRq64 (fun lvw87 memw87 hlw87 hRw87 => ?_)
          show h_T g_P (g_Y ns) 57 20 [(0, .ref 63), (1, .int (Int32.ofInt 0))] [] sq64 _
          refine h_vret rfl rfl (d_retn hlv4 ?_)
          refine h_aload_n (pc' := 9) rfl rfl rfl ?_
          refine h_iconst (pc' := 10) (x := (Int32.ofInt 5)) rfl rfl rfl ?_
          refine h_call (sp := false) (pc' := 13) (M := [(0, .ref 63), (1, .int (Int32.ofInt 5))]) rfl rfl rfl rfl rfl rfl rfl rfl ?_
          refine h_aload_n (pc' := 1) rfl rfl rfl ?_
          refine h_getI (pc' := 4) (v := sq64 63 2) rfl rfl rfl rfl rfl rfl (fun z88 hz88 => ?_)
          have tz88 := tf_63_2 Isq64
          refine h_zne (tg := 30) (pc' := 7) rfl rfl rfl hz88 (fun c89 => ?_) (fun c89 => absurd c89 (by omega))
          clear hz88
          refine h_aload_n (pc' := 31) rfl rfl rfl ?_
          refine h_getI (pc' := 34) (v := sq64 63 2) rfl rfl rfl rfl rfl rfl (fun z90 hz90 => ?_)
          refine h_zne (tg := 60) (pc' := 37) rfl rfl rfl hz90 (fun c91 => ?_) (fun c91 => absurd c91 (by omega))
          clear hz90
          refine h_aload_n (pc' := 61) rfl rfl rfl ?_
          refine h_getR (pc' := 64) rfl rfl rfl rfl rfl ?_
          refine h_getI (pc' := 67) (v := sq64 64 5) rfl rfl rfl rfl rfl rfl (fun z92 hz92 => ?_)
          have tz92 := tf_64_5 Isq64
          refine h_istore_n (pc' := 68) (M := [(2, .int z92), (0, .ref 63), (1, .int (Int32.ofInt 5))]) rfl rfl rfl rfl ?_
          refine h_aload_n (pc' := 69) rfl rfl rfl ?_
          refine h_call (sp := false) (pc' := 72) (M := [(0, .ref 63)]) rfl rfl rfl rfl rfl rfl rfl rfl ?_
          refine h_aload_n (pc' := 1) rfl rfl rfl ?_
          refine h_getI (pc' := 4) (v := sq64 63 2) rfl rfl rfl rfl rfl rfl (fun z93 hz93 => ?_)
          refine h_zne (tg := 37) (pc' := 7) rfl rfl rfl hz93 (fun c94 => ?_) (fun c94 => absurd c94 (by omega))
          clear hz93
          refine h_vret rfl rfl (h_Kn ?_)
          refine h_iload_n (pc' := 73) rfl rfl rfl ?_
          refine h_iret rfl rfl (h_Kv ?_)
          refine h_istore_n (pc' := 14) (M := [(2, .int z92), (0, .ref 63), (1, .ref 69)]) rfl rfl rfl rfl ?_
          refine h_aload_n (pc' := 15) rfl rfl rfl ?_
          refine h_call (sp := false) (pc' := 18) (M := [(0, .ref 63)]) rfl rfl rfl rfl rfl rfl rfl rfl ?_
          refine h_aload_n (pc' := 1) rfl rfl rfl ?_
          refine h_getI (pc' := 4) (v := sq64 63 2) rfl rfl rfl rfl rfl rfl (fun z95 hz95 => ?_)
          refine h_zne (tg := 22) (pc' := 7) rfl rfl rfl hz95 (fun c96 => ?_) (fun c96 => absurd c96 (by omega))
          clear hz95
          refine h_iconst (pc' := 23) (x := (Int32.ofInt 0)) rfl rfl rfl ?_
          refine h_zret rfl rfl ci_0 (by omega) (h_Kv ?_)
          refine h_zeq (tg := 44) (pc' := 21) rfl rfl rfl ci_0 (fun c97 => ?_) (fun c97 => absurd c97 (by omega))
          refine h_aload_n (pc' := 45) rfl rfl rfl ?_
          refine h_iconst (pc' := 46) (x := (Int32.ofInt 5)) rfl rfl rfl ?_
          refine h_call (sp := false) (pc' := 49) (M := [(0, .ref 63), (1, .int (Int32.ofInt 5))]) rfl rfl rfl rfl rfl rfl rfl rfl ?_
          refine h_aload_n (pc' := 1) rfl rfl rfl ?_
          refine h_getI (pc' := 4) (v := sq64 63 2) rfl rfl rfl rfl rfl rfl (fun z98 hz98 => ?_)
          refine h_zne (tg := 30) (pc' := 7) rfl rfl rfl hz98 (fun c99 => ?_) (fun c99 => absurd c99 (by omega))
          clear hz98
          refine h_aload_n (pc' := 31) rfl rfl rfl ?_
          refine h_getI (pc' := 34) (v := sq64 63 2) rfl rfl rfl rfl rfl rfl (fun z100 hz100 => ?_)
          refine h_zne (tg := 60) (pc' := 37) rfl rfl rfl hz100 (fun c101 => ?_) (fun c101 => absurd c101 (by omega))
          clear hz100
          refine h_aload_n (pc' := 61) rfl rfl rfl ?_
          refine h_getR (pc' := 64) rfl rfl rfl rfl rfl ?_
          refine h_getI (pc' := 67) (v := sq64 64 5) rfl rfl rfl rfl rfl rfl (fun z102 hz102 => ?_)
          refine h_istore_n (pc' := 68) (M := [(2, .int z102), (0, .ref 63), (1, .int (Int32.ofInt 5))]) rfl rfl rfl rfl ?_
          refine h_aload_n (pc' := 69) rfl rfl rfl ?_
          refine h_call (sp := false) (pc' := 72) (M := [(0, .ref 63)]) rfl rfl rfl rfl rfl rfl rfl rfl ?_
          refine h_aload_n (pc' := 1) rfl rfl rfl ?_
          refine h_getI (pc' := 4) (v := sq64 63 2) rfl rfl rfl rfl rfl rfl (fun z103 hz103 => ?_)
          refine h_zne (tg := 37) (pc' := 7) rfl rfl rfl hz103 (fun c104 => ?_) (fun c104 => absurd c104 (by omega))
          clear hz103
          refine h_vret rfl rfl (h_Kn ?_)
          refine h_iload_n (pc' := 73) rfl rfl rfl ?_
          refine h_iret rfl rfl (h_Kv ?_)
          refine h_istore_n (pc' := 50) (M := [(3, .int z102), (2, .int z92), (0, .ref 63), (1, .ref 69)]) rfl rfl rfl rfl ?_
          refine h_aload_n (pc' := 51) rfl rfl rfl ?_
          refine h_getI (pc' := 54) (v := sq64 63 2) rfl rfl rfl rfl rfl rfl (fun z105 hz105 => ?_)
          refine h_zne (tg := 64) (pc' := 57) rfl rfl rfl hz105 (fun c106 => ?_) (fun c106 => absurd c106 (by omega))
          clear hz105
          refine h_vret rfl rfl (d_retn hlv1 ?_)
          clear hz102 hz92
          refine h_goto (pc' := 150) rfl rfl ?_
          refine h_aload_n (pc' := 151) rfl rfl rfl ?_
          refine h_getI (pc' := 154) (v := sq64 63 2) rfl rfl rfl rfl rfl rfl (fun z107 hz107 => ?_)
          refine h_zne (tg := 180) (pc' := 157) rfl rfl rfl hz107 (fun c108 => ?_) (fun c108 => absurd c108 (by omega))
          clear hz107
          exact h_wk [(0, .ref 63)] ⟨rfl, trivial⟩ (kx1 _ _ Isq64 Itq64 Fsq64 Ftq64 (by omega) (by omega) (by omega) (by omega) (by omega) (pcq64.elim (fun pcq64 => ⟨by omega, by omega, by omega, by omega⟩) (fun pcq64 => (pcq64.elim (fun pcq64 => (by exfalso; omega)) (fun pcq64 => (pcq64.elim (fun pcq64 => (by exfalso; omega)) (fun pcq64 => (pcq64.elim (fun pcq64 => (by exfalso; omega)) (fun pcq64 => (by exfalso; omega))))))))) _ _ (h_al_ok ⟨rfl, trivial⟩ hlw87) hRw87)
    · clear hz2
      refine h_iconst (pc' := 9) (x := (Int32.ofInt 1)) rfl rfl rfl ?_
      refine h_goto (pc' := 13) rfl rfl ?_
      refine h_zret rfl rfl ci_1 (by omega) (h_Kv ?_)
      refine d_call (g_inj ns) (pc' := 8) (m := 57) (M := [(0, .ref 63), (1, .int (Int32.ofInt 1))]) (rest := []) ⟨false, _, _, _, _, _, _, rfl, rfl, rfl, rfl, rfl, rfl, rfl⟩ (fun lv109 hlv109 => ?_)
      refine h_iload_n (pc' := 1) rfl rfl rfl ?_
      refine h_zeq (tg := 16) (pc' := 4) rfl rfl rfl ci_1 (fun c110 => absurd c110 (by omega)) (fun c110 => ?_)
      refine h_aload_n (pc' := 5) rfl rfl rfl ?_
      refine h_iconst (pc' := 6) (x := (Int32.ofInt 5)) rfl rfl rfl ?_
      refine h_aload_n (pc' := 7) rfl rfl rfl ?_
      refine h_getR (pc' := 10) rfl rfl rfl rfl rfl ?_
      refine h_getI (pc' := 13) (v := σ1 64 4) rfl rfl rfl rfl rfl rfl (fun z111 hz111 => ?_)
      have tz111 := tf_64_4 hI1
      refine h_call (sp := false) (pc' := 16) (M := [(0, .ref 63), (1, .int (Int32.ofInt 5)), (2, .int z111)]) rfl rfl rfl rfl rfl rfl rfl rfl ?_
      refine h_aload_n (pc' := 1) rfl rfl rfl ?_
      refine h_getI (pc' := 4) (v := σ1 63 2) rfl rfl rfl rfl rfl rfl (fun z112 hz112 => ?_)
      have tz112 := tf_63_2 hI1
      refine h_zne (tg := 17) (pc' := 7) rfl rfl rfl hz112 (fun c113 => absurd c113 (by omega)) (fun c113 => ?_)
      clear hz112
      refine h_aload_n (pc' := 8) rfl rfl rfl ?_
      refine h_iload_n (pc' := 9) rfl rfl rfl ?_
      refine h_put (pc' := 12) rfl rfl rfl rfl rfl rfl ci_5 rfl (h_fgt (E := fun s => s 64 2 = σ1 64 2 ∧ s 64 4 = σ1 64 4 ∧ s 64 3 = σ1 64 3 ∧ s 64 5 = σ1 64 5 ∧ s 63 2 = 5 ∧ s 63 3 = σ1 63 3 ∧ s 64 1 = σ1 64 1 ∧ s 66 8 = σ1 66 8 ∧ s 66 9 = σ1 66 9 ∧ s 66 10 = σ1 66 10 ∧ s 69 2 = σ1 69 2 ∧ s 72 2 = σ1 72 2 ∧ s 63 5 = σ1 63 5 ∧ s = h_up σ1 63 2 5) _ (if_63_2 hI1 (by omega)) (F1.up rfl) ⟨rfl, rfl, rfl, rfl, rfl, rfl, rfl, rfl, rfl, rfl, rfl, rfl, rfl, rfl⟩ (fun s114 Is114 Fs114 (es114 : s114 64 2 = σ1 64 2 ∧ s114 64 4 = σ1 64 4 ∧ s114 64 3 = σ1 64 3 ∧ s114 64 5 = σ1 64 5 ∧ s114 63 2 = 5 ∧ s114 63 3 = σ1 63 3 ∧ s114 64 1 = σ1 64 1 ∧ s114 66 8 = σ1 66 8 ∧ s114 66 9 = σ1 66 9 ∧ s114 66 10 = σ1 66 10 ∧ s114 69 2 = σ1 69 2 ∧ s114 72 2 = σ1 72 2 ∧ s114 63 5 = σ1 63 5 ∧ s114 = h_up σ1 63 2 5) => ?_))
      refine h_aload_n (pc' := 13) rfl rfl rfl ?_
      refine h_iload_n (pc' := 14) rfl rfl rfl ?_
      refine h_put (pc' := 17) rfl rfl rfl rfl rfl rfl hz111 rfl (h_fgt (E := fun s => s 64 2 = σ1 64 2 ∧ s 64 4 = σ1 64 4 ∧ s 64 3 = σ1 64 3 ∧ s 64 5 = σ1 64 5 ∧ s 63 2 = 5 ∧ s 63 3 = (σ1 64 4) ∧ s 64 1 = σ1 64 1 ∧ s 66 8 = σ1 66 8 ∧ s 66 9 = σ1 66 9 ∧ s 66 10 = σ1 66 10 ∧ s 69 2 = σ1 69 2 ∧ s 72 2 = σ1 72 2 ∧ s 63 5 = σ1 63 5 ∧ s = h_up s114 63 3 (σ1 64 4)) _ (if_63_3 Is114 (h_rgv hz111)) (Fs114.up rfl) ⟨es114.1, es114.2.1, es114.2.2.1, es114.2.2.2.1, es114.2.2.2.2.1, rfl, es114.2.2.2.2.2.2.1, es114.2.2.2.2.2.2.2.1, es114.2.2.2.2.2.2.2.2.1, es114.2.2.2.2.2.2.2.2.2.1, es114.2.2.2.2.2.2.2.2.2.2.1, es114.2.2.2.2.2.2.2.2.2.2.2.1, es114.2.2.2.2.2.2.2.2.2.2.2.2.1, rfl⟩ (fun s115 Is115 Fs115 (es115 : s115 64 2 = σ1 64 2 ∧ s115 64 4 = σ1 64 4 ∧ s115 64 3 = σ1 64 3 ∧ s115 64 5 = σ1 64 5 ∧ s115 63 2 = 5 ∧ s115 63 3 = (σ1 64 4) ∧ s115 64 1 = σ1 64 1 ∧ s115 66 8 = σ1 66 8 ∧ s115 66 9 = σ1 66 9 ∧ s115 66 10 = σ1 66 10 ∧ s115 69 2 = σ1 69 2 ∧ s115 72 2 = σ1 72 2 ∧ s115 63 5 = σ1 63 5 ∧ s115 = h_up s114 63 3 (σ1 64 4)) => ?_))
      refine h_vret rfl rfl (h_Kn ?_)
      refine h_aload_n (pc' := 17) rfl rfl rfl ?_
      refine h_call (sp := false) (pc' := 20) (M := [(0, .ref 63)]) rfl rfl rfl rfl rfl rfl rfl rfl ?_
      refine h_aload_n (pc' := 1) rfl rfl rfl ?_
      refine h_getI (pc' := 4) (v := 5) rfl rfl rfl rfl rfl es115.2.2.2.2.1 (fun z116 hz116 => ?_)
      refine h_zne (tg := 37) (pc' := 7) rfl rfl rfl hz116 (fun c117 => ?_) (fun c117 => absurd c117 (by omega))
      clear hz116
      refine h_vret rfl rfl (h_Kn ?_)
      refine h_vret rfl rfl (d_retn hlv109 ?_)
      refine h_aload_n (pc' := 9) rfl rfl rfl ?_
      refine h_iconst (pc' := 10) (x := (Int32.ofInt 5)) rfl rfl rfl ?_
      refine h_call (sp := false) (pc' := 13) (M := [(0, .ref 63), (1, .int (Int32.ofInt 5))]) rfl rfl rfl rfl rfl rfl rfl rfl ?_
      refine h_aload_n (pc' := 1) rfl rfl rfl ?_
      refine h_getI (pc' := 4) (v := 5) rfl rfl rfl rfl rfl es115.2.2.2.2.1 (fun z118 hz118 => ?_)
      refine h_zne (tg := 30) (pc' := 7) rfl rfl rfl hz118 (fun c119 => ?_) (fun c119 => absurd c119 (by omega))
      clear hz118
      refine h_aload_n (pc' := 31) rfl rfl rfl ?_
      refine h_getI (pc' := 34) (v := 5) rfl rfl rfl rfl rfl es115.2.2.2.2.1 (fun z120 hz120 => ?_)
      refine h_zne (tg := 60) (pc' := 37) rfl rfl rfl hz120 (fun c121 => ?_) (fun c121 => absurd c121 (by omega))
      clear hz120
      refine h_aload_n (pc' := 61) rfl rfl rfl ?_
      refine h_getR (pc' := 64) rfl rfl rfl rfl rfl ?_
      refine h_getI (pc' := 67) (v := σ1 64 5) rfl rfl rfl rfl rfl es115.2.2.2.1 (fun z122 hz122 => ?_)
      have tz122 := tf_64_5 hI1
      refine h_istore_n (pc' := 68) (M := [(2, .int z122), (0, .ref 63), (1, .int (Int32.ofInt 5))]) rfl rfl rfl rfl ?_
      refine h_aload_n (pc' := 69) rfl rfl rfl ?_
      refine h_call (sp := false) (pc' := 72) (M := [(0, .ref 63)]) rfl rfl rfl rfl rfl rfl rfl rfl ?_
      refine h_aload_n (pc' := 1) rfl rfl rfl ?_
      refine h_getI (pc' := 4) (v := 5) rfl rfl rfl rfl rfl es115.2.2.2.2.1 (fun z123 hz123 => ?_)
      refine h_zne (tg := 37) (pc' := 7) rfl rfl rfl hz123 (fun c124 => ?_) (fun c124 => absurd c124 (by omega))
      clear hz123
      refine h_vret rfl rfl (h_Kn ?_)
      refine h_iload_n (pc' := 73) rfl rfl rfl ?_
      refine h_iret rfl rfl (h_Kv ?_)
      refine h_istore_n (pc' := 14) (M := [(2, .int z122), (0, .ref 63), (1, .ref 69)]) rfl rfl rfl rfl ?_
      refine h_aload_n (pc' := 15) rfl rfl rfl ?_
      refine h_call (sp := false) (pc' := 18) (M := [(0, .ref 63)]) rfl rfl rfl rfl rfl rfl rfl rfl ?_
      refine h_aload_n (pc' := 1) rfl rfl rfl ?_
      refine h_getI (pc' := 4) (v := 5) rfl rfl rfl rfl rfl es115.2.2.2.2.1 (fun z125 hz125 => ?_)
      refine h_zne (tg := 22) (pc' := 7) rfl rfl rfl hz125 (fun c126 => ?_) (fun c126 => absurd c126 (by omega))
      clear hz125
      refine h_iconst (pc' := 23) (x := (Int32.ofInt 0)) rfl rfl rfl ?_
      refine h_zret rfl rfl ci_0 (by omega) (h_Kv ?_)
      refine h_zeq (tg := 44) (pc' := 21) rfl rfl rfl ci_0 (fun c127 => ?_) (fun c127 => absurd c127 (by omega))
      refine h_aload_n (pc' := 45) rfl rfl rfl ?_
      refine h_iconst (pc' := 46) (x := (Int32.ofInt 5)) rfl rfl rfl ?_
      refine h_call (sp := false) (pc' := 49) (M := [(0, .ref 63), (1, .int (Int32.ofInt 5))]) rfl rfl rfl rfl rfl rfl rfl rfl ?_
      refine h_aload_n (pc' := 1) rfl rfl rfl ?_
      refine h_getI (pc' := 4) (v := 5) rfl rfl rfl rfl rfl es115.2.2.2.2.1 (fun z128 hz128 => ?_)
      refine h_zne (tg := 30) (pc' := 7) rfl rfl rfl hz128 (fun c129 => ?_) (fun c129 => absurd c129 (by omega))
      clear hz128
      refine h_aload_n (pc' := 31) rfl rfl rfl ?_
      refine h_getI (pc' := 34) (v := 5) rfl rfl rfl rfl rfl es115.2.2.2.2.1 (fun z130 hz130 => ?_)
      refine h_zne (tg := 60) (pc' := 37) rfl rfl rfl hz130 (fun c131 => ?_) (fun c131 => absurd c131 (by omega))
      clear hz130
      refine h_aload_n (pc' := 61) rfl rfl rfl ?_
      refine h_getR (pc' := 64) rfl rfl rfl rfl rfl ?_
      refine h_getI (pc' := 67) (v := σ1 64 5) rfl rfl rfl rfl rfl es115.2.2.2.1 (fun z132 hz132 => ?_)
      refine h_istore_n (pc' := 68) (M := [(2, .int z132), (0, .ref 63), (1, .int (Int32.ofInt 5))]) rfl rfl rfl rfl ?_
      refine h_aload_n (pc' := 69) rfl rfl rfl ?_
      refine h_call (sp := false) (pc' := 72) (M := [(0, .ref 63)]) rfl rfl rfl rfl rfl rfl rfl rfl ?_
      refine h_aload_n (pc' := 1) rfl rfl rfl ?_
      refine h_getI (pc' := 4) (v := 5) rfl rfl rfl rfl rfl es115.2.2.2.2.1 (fun z133 hz133 => ?_)
      refine h_zne (tg := 37) (pc' := 7) rfl rfl rfl hz133 (fun c134 => ?_) (fun c134 => absurd c134 (by omega))
      clear hz133
      refine h_vret rfl rfl (h_Kn ?_)
      refine h_iload_n (pc' := 73) rfl rfl rfl ?_
      refine h_iret rfl rfl (h_Kv ?_)
      refine h_istore_n (pc' := 50) (M := [(3, .int z132), (2, .int z122), (0, .ref 63), (1, .ref 69)]) rfl rfl rfl rfl ?_
      refine h_aload_n (pc' := 51) rfl rfl rfl ?_
      refine h_getI (pc' := 54) (v := 5) rfl rfl rfl rfl rfl es115.2.2.2.2.1 (fun z135 hz135 => ?_)
      refine h_zne (tg := 64) (pc' := 57) rfl rfl rfl hz135 (fun c136 => ?_) (fun c136 => absurd c136 (by omega))
      clear hz135
      refine h_vret rfl rfl (d_retn hlv1 ?_)
      clear hz122 hz132
      refine h_goto (pc' := 150) rfl rfl ?_
      refine h_aload_n (pc' := 151) rfl rfl rfl ?_
      refine h_getI (pc' := 154) (v := 5) rfl rfl rfl rfl rfl es115.2.2.2.2.1 (fun z137 hz137 => ?_)
      refine h_zne (tg := 180) (pc' := 157) rfl rfl rfl hz137 (fun c138 => ?_) (fun c138 => absurd c138 (by omega))
      clear hz137
      refine d_toM (g_inj ns) hl2 hR2 (fun lvw139 memw139 hlw139 hRw139 => ?_)
      show h_T g_P (g_Y ns) 154 23 [(0, .ref 98), (1, .int y1)] [] σ2 _
      refine h_iload_n (pc' := 24) rfl rfl rfl ?_
      refine h_iconst (pc' := 25) (x := (Int32.ofInt 3)) rfl rfl rfl ?_
      refine h_cgt (tg := 37) (pc' := 28) rfl rfl rfl hy1 ci_3 (fun c140 => ?_) (fun c140 => absurd c140 (by omega))
      refine h_iload_n (pc' := 38) rfl rfl rfl ?_
      refine h_iconst (pc' := 39) (x := (Int32.ofInt 4)) rfl rfl rfl ?_
      refine h_cne (tg := 53) (pc' := 42) rfl rfl rfl hy1 ci_4 (fun c141 => absurd c141 (by omega)) (fun c141 => ?_)
      refine h_aload_n (pc' := 43) rfl rfl rfl ?_
      refine h_getR (pc' := 46) rfl rfl rfl rfl rfl ?_
      refine h_bipush (pc' := 48) (x := (Int32.ofInt 18)) rfl rfl cb_18 ?_
      refine h_iald (pc' := 49) (v := σ2 101 18) rfl rfl rfl ci_18 (by omega) (by omega) rfl (fun z142 hz142 => ?_)
      have tz142 := ty_101_3 hI2 18 (by omega)
      refine h_iconst (pc' := 50) (x := (Int32.ofInt 3)) rfl rfl rfl ?_
      refine h_ceq (tg := 83) (pc' := 53) rfl rfl rfl hz142 ci_3 (fun c143 => ?_) (fun c143 => absurd c143 (by omega))
      clear hz142
      refine h_aload_n (pc' := 84) rfl rfl rfl ?_
      refine h_iconst (pc' := 85) (x := (Int32.ofInt 5)) rfl rfl rfl ?_
      refine h_call (sp := false) (pc' := 88) (M := [(0, .ref 98), (1, .int (Int32.ofInt 5))]) rfl rfl rfl rfl rfl rfl rfl rfl ?_
      refine h_aload_n (pc' := 1) rfl rfl rfl ?_
      refine h_getI (pc' := 4) (v := σ2 98 13) rfl rfl rfl rfl rfl rfl (fun z144 hz144 => ?_)
      have tz144 := tf_98_13 hI2
      refine h_zne (tg := 20) (pc' := 7) rfl rfl rfl hz144 (fun c145 => absurd c145 (by omega)) (fun c145 => ?_)
      clear hz144
      refine h_aload_n (pc' := 8) rfl rfl rfl ?_
      refine h_iload_n (pc' := 9) rfl rfl rfl ?_
      refine h_put (pc' := 12) rfl rfl rfl rfl rfl rfl ci_5 rfl (h_fgt (E := fun s => s 98 15 = σ2 98 15 ∧ s 98 16 = σ2 98 16 ∧ s 98 17 = σ2 98 17 ∧ s 98 18 = σ2 98 18 ∧ s 98 13 = 5 ∧ s 98 14 = σ2 98 14 ∧ s 98 5 = σ2 98 5 ∧ s 98 6 = σ2 98 6 ∧ s 98 7 = σ2 98 7 ∧ s 98 8 = σ2 98 8 ∧ s 98 9 = σ2 98 9 ∧ s 101 18 = σ2 101 18 ∧ s 101 25 = σ2 101 25 ∧ s 101 43 = σ2 101 43 ∧ s = h_up σ2 98 13 5) _ (if_98_13 hI2 (by omega)) (F2.up rfl) ⟨rfl, rfl, rfl, rfl, rfl, rfl, rfl, rfl, rfl, rfl, rfl, rfl, rfl, rfl, rfl⟩ (fun s146 Is146 Fs146 (es146 : s146 98 15 = σ2 98 15 ∧ s146 98 16 = σ2 98 16 ∧ s146 98 17 = σ2 98 17 ∧ s146 98 18 = σ2 98 18 ∧ s146 98 13 = 5 ∧ s146 98 14 = σ2 98 14 ∧ s146 98 5 = σ2 98 5 ∧ s146 98 6 = σ2 98 6 ∧ s146 98 7 = σ2 98 7 ∧ s146 98 8 = σ2 98 8 ∧ s146 98 9 = σ2 98 9 ∧ s146 101 18 = σ2 101 18 ∧ s146 101 25 = σ2 101 25 ∧ s146 101 43 = σ2 101 43 ∧ s146 = h_up σ2 98 13 5) => ?_))
      refine h_aload_n (pc' := 13) rfl rfl rfl ?_
      refine h_aload_n (pc' := 14) rfl rfl rfl ?_
      refine h_getI (pc' := 17) (v := σ2 98 16) rfl rfl rfl rfl rfl es146.2.1 (fun z147 hz147 => ?_)
      have tz147 := tf_98_16 hI2
      refine h_put (pc' := 20) rfl rfl rfl rfl rfl rfl hz147 rfl (h_fgt (E := fun s => s 98 15 = σ2 98 15 ∧ s 98 16 = σ2 98 16 ∧ s 98 17 = σ2 98 17 ∧ s 98 18 = σ2 98 18 ∧ s 98 13 = 5 ∧ s 98 14 = (σ2 98 16) ∧ s 98 5 = σ2 98 5 ∧ s 98 6 = σ2 98 6 ∧ s 98 7 = σ2 98 7 ∧ s 98 8 = σ2 98 8 ∧ s 98 9 = σ2 98 9 ∧ s 101 18 = σ2 101 18 ∧ s 101 25 = σ2 101 25 ∧ s 101 43 = σ2 101 43 ∧ s = h_up s146 98 14 (σ2 98 16)) _ (if_98_14 Is146 (h_rgv hz147)) (Fs146.up rfl) ⟨es146.1, es146.2.1, es146.2.2.1, es146.2.2.2.1, es146.2.2.2.2.1, rfl, es146.2.2.2.2.2.2.1, es146.2.2.2.2.2.2.2.1, es146.2.2.2.2.2.2.2.2.1, es146.2.2.2.2.2.2.2.2.2.1, es146.2.2.2.2.2.2.2.2.2.2.1, es146.2.2.2.2.2.2.2.2.2.2.2.1, es146.2.2.2.2.2.2.2.2.2.2.2.2.1, es146.2.2.2.2.2.2.2.2.2.2.2.2.2.1, rfl⟩ (fun s148 Is148 Fs148 (es148 : s148 98 15 = σ2 98 15 ∧ s148 98 16 = σ2 98 16 ∧ s148 98 17 = σ2 98 17 ∧ s148 98 18 = σ2 98 18 ∧ s148 98 13 = 5 ∧ s148 98 14 = (σ2 98 16) ∧ s148 98 5 = σ2 98 5 ∧ s148 98 6 = σ2 98 6 ∧ s148 98 7 = σ2 98 7 ∧ s148 98 8 = σ2 98 8 ∧ s148 98 9 = σ2 98 9 ∧ s148 101 18 = σ2 101 18 ∧ s148 101 25 = σ2 101 25 ∧ s148 101 43 = σ2 101 43 ∧ s148 = h_up s146 98 14 (σ2 98 16)) => ?_))
      refine h_vret rfl rfl (h_Kn ?_)
      refine h_iload_n (pc' := 89) rfl rfl rfl ?_
      refine h_bipush (pc' := 91) (x := (Int32.ofInt 7)) rfl rfl cb_7 ?_
      refine h_cne (tg := 106) (pc' := 94) rfl rfl rfl hy1 ci_7 (fun c149 => ?_) (fun c149 => absurd c149 (by omega))
      refine h_aload_n (pc' := 107) rfl rfl rfl ?_
      refine h_aload_n (pc' := 108) rfl rfl rfl ?_
      refine h_getI (pc' := 111) (v := σ2 98 7) rfl rfl rfl rfl rfl es148.2.2.2.2.2.2.2.2.1 (fun z150 hz150 => ?_)
      have tz150 := tf_98_7 hI2
      refine h_zne (tg := 120) (pc' := 114) rfl rfl rfl hz150 (fun c151 => ?_) (fun c151 => ?_)
      · clear hz150
        refine h_iconst (pc' := 121) (x := (Int32.ofInt 1)) rfl rfl rfl ?_
        refine h_goto (pc' := 125) rfl rfl ?_
        refine h_put (pc' := 128) rfl rfl rfl rfl rfl rfl ci_1 (h_fb ci_1 (by omega)) (h_fgt (E := fun s => s 98 15 = σ2 98 15 ∧ s 98 16 = σ2 98 16 ∧ s 98 17 = σ2 98 17 ∧ s 98 18 = σ2 98 18 ∧ s 98 13 = 5 ∧ s 98 14 = (σ2 98 16) ∧ s 98 5 = σ2 98 5 ∧ s 98 6 = σ2 98 6 ∧ s 98 7 = 1 ∧ s 98 8 = σ2 98 8 ∧ s 98 9 = σ2 98 9 ∧ s 101 18 = σ2 101 18 ∧ s 101 25 = σ2 101 25 ∧ s 101 43 = σ2 101 43 ∧ s = h_up s148 98 7 1) _ (if_98_7 Is148 (by omega)) (Fs148.up rfl) ⟨es148.1, es148.2.1, es148.2.2.1, es148.2.2.2.1, es148.2.2.2.2.1, es148.2.2.2.2.2.1, es148.2.2.2.2.2.2.1, es148.2.2.2.2.2.2.2.1, rfl, es148.2.2.2.2.2.2.2.2.2.1, es148.2.2.2.2.2.2.2.2.2.2.1, es148.2.2.2.2.2.2.2.2.2.2.2.1, es148.2.2.2.2.2.2.2.2.2.2.2.2.1, es148.2.2.2.2.2.2.2.2.2.2.2.2.2.1, rfl⟩ (fun s152 Is152 Fs152 (es152 : s152 98 15 = σ2 98 15 ∧ s152 98 16 = σ2 98 16 ∧ s152 98 17 = σ2 98 17 ∧ s152 98 18 = σ2 98 18 ∧ s152 98 13 = 5 ∧ s152 98 14 = (σ2 98 16) ∧ s152 98 5 = σ2 98 5 ∧ s152 98 6 = σ2 98 6 ∧ s152 98 7 = 1 ∧ s152 98 8 = σ2 98 8 ∧ s152 98 9 = σ2 98 9 ∧ s152 101 18 = σ2 101 18 ∧ s152 101 25 = σ2 101 25 ∧ s152 101 43 = σ2 101 43 ∧ s152 = h_up s148 98 7 1) => ?_))
        refine h_aload_n (pc' := 129) rfl rfl rfl ?_
        refine h_call (sp := false) (pc' := 132) (M := [(0, .ref 98)]) rfl rfl rfl rfl rfl rfl rfl rfl ?_
        refine h_aload_n (pc' := 1) rfl rfl rfl ?_
        refine h_getI (pc' := 4) (v := 5) rfl rfl rfl rfl rfl es152.2.2.2.2.1 (fun z153 hz153 => ?_)
        refine h_zle (tg := 8) (pc' := 7) rfl rfl rfl hz153 (fun c154 => absurd c154 (by omega)) (fun c154 => ?_)
        clear hz153
        refine h_vret rfl rfl (h_Kn ?_)
        refine h_aload_n (pc' := 133) rfl rfl rfl ?_
        refine h_getI (pc' := 136) (v := 5) rfl rfl rfl rfl rfl es152.2.2.2.2.1 (fun z155 hz155 => ?_)
        refine h_zle (tg := 140) (pc' := 139) rfl rfl rfl hz155 (fun c156 => absurd c156 (by omega)) (fun c156 => ?_)
        clear hz155
        refine d_toL (g_inj ns) hlw139 hRw139 (fun lvw157 memw157 hlw157 hRw157 => ?_)
        show h_T g_P (g_Y ns) 56 180 [(0, .ref 63), (1, .int x1)] [] s115 _
        exact h_wk [(0, .ref 63)] ⟨rfl, trivial⟩ (kx1 _ _ Is115 Is152 Fs115 Fs152 (by omega) (by omega) (by omega) (by omega) (by omega) ⟨by omega, by omega, by omega, by omega⟩ _ _ (h_al_ok ⟨rfl, trivial⟩ hlw157) hRw157)
      · clear hz150
        refine h_iload_n (pc' := 115) rfl rfl rfl ?_
        refine h_bipush (pc' := 117) (x := (Int32.ofInt 7)) rfl rfl cb_7 ?_
        refine h_cne (tg := 124) (pc' := 120) rfl rfl rfl hy1 ci_7 (fun c158 => ?_) (fun c158 => absurd c158 (by omega))
        refine h_iconst (pc' := 125) (x := (Int32.ofInt 0)) rfl rfl rfl ?_
        refine h_put (pc' := 128) rfl rfl rfl rfl rfl rfl ci_0 (h_fb ci_0 (by omega)) (h_fgt (E := fun s => s 98 15 = σ2 98 15 ∧ s 98 16 = σ2 98 16 ∧ s 98 17 = σ2 98 17 ∧ s 98 18 = σ2 98 18 ∧ s 98 13 = 5 ∧ s 98 14 = (σ2 98 16) ∧ s 98 5 = σ2 98 5 ∧ s 98 6 = σ2 98 6 ∧ s 98 7 = 0 ∧ s 98 8 = σ2 98 8 ∧ s 98 9 = σ2 98 9 ∧ s 101 18 = σ2 101 18 ∧ s 101 25 = σ2 101 25 ∧ s 101 43 = σ2 101 43 ∧ s = h_up s148 98 7 0) _ (if_98_7 Is148 (by omega)) (Fs148.up rfl) ⟨es148.1, es148.2.1, es148.2.2.1, es148.2.2.2.1, es148.2.2.2.2.1, es148.2.2.2.2.2.1, es148.2.2.2.2.2.2.1, es148.2.2.2.2.2.2.2.1, rfl, es148.2.2.2.2.2.2.2.2.2.1, es148.2.2.2.2.2.2.2.2.2.2.1, es148.2.2.2.2.2.2.2.2.2.2.2.1, es148.2.2.2.2.2.2.2.2.2.2.2.2.1, es148.2.2.2.2.2.2.2.2.2.2.2.2.2.1, rfl⟩ (fun s159 Is159 Fs159 (es159 : s159 98 15 = σ2 98 15 ∧ s159 98 16 = σ2 98 16 ∧ s159 98 17 = σ2 98 17 ∧ s159 98 18 = σ2 98 18 ∧ s159 98 13 = 5 ∧ s159 98 14 = (σ2 98 16) ∧ s159 98 5 = σ2 98 5 ∧ s159 98 6 = σ2 98 6 ∧ s159 98 7 = 0 ∧ s159 98 8 = σ2 98 8 ∧ s159 98 9 = σ2 98 9 ∧ s159 101 18 = σ2 101 18 ∧ s159 101 25 = σ2 101 25 ∧ s159 101 43 = σ2 101 43 ∧ s159 = h_up s148 98 7 0) => ?_))
        refine h_aload_n (pc' := 129) rfl rfl rfl ?_
        refine h_call (sp := false) (pc' := 132) (M := [(0, .ref 98)]) rfl rfl rfl rfl rfl rfl rfl rfl ?_
        refine h_aload_n (pc' := 1) rfl rfl rfl ?_
        refine h_getI (pc' := 4) (v := 5) rfl rfl rfl rfl rfl es159.2.2.2.2.1 (fun z160 hz160 => ?_)
        refine h_zle (tg := 8) (pc' := 7) rfl rfl rfl hz160 (fun c161 => absurd c161 (by omega)) (fun c161 => ?_)
        clear hz160
        refine h_vret rfl rfl (h_Kn ?_)
        refine h_aload_n (pc' := 133) rfl rfl rfl ?_
        refine h_getI (pc' := 136) (v := 5) rfl rfl rfl rfl rfl es159.2.2.2.2.1 (fun z162 hz162 => ?_)
        refine h_zle (tg := 140) (pc' := 139) rfl rfl rfl hz162 (fun c163 => absurd c163 (by omega)) (fun c163 => ?_)
        clear hz162
        refine d_toL (g_inj ns) hlw139 hRw139 (fun lvw164 memw164 hlw164 hRw164 => ?_)
        show h_T g_P (g_Y ns) 56 180 [(0, .ref 63), (1, .int x1)] [] s115 _
        exact h_wk [(0, .ref 63)] ⟨rfl, trivial⟩ (kx1 _ _ Is115 Is159 Fs115 Fs159 (by omega) (by omega) (by omega) (by omega) (by omega) ⟨by omega, by omega, by omega, by omega⟩ _ _ (h_al_ok ⟨rfl, trivial⟩ hlw164) hRw164)
