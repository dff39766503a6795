set_option maxHeartbeats 100000000 in
theorem ls_feu_b {ns : Nat} {σ1 σ2 : h_S} (hI1 : h_I σ1) (hI2 : h_I σ2) (hTL : d_tape σ1 σ2) (y2 : Int32) (c2 : Int) (hy2 : y2.toInt = c2) (pr0 : σ1 64 2 = σ2 98 15) (pr1 : σ1 64 4 = σ2 98 16) (pr2 : σ1 63 2 = σ2 98 13) (pr3 : σ1 66 8 = σ2 98 5) (pr4 : σ1 66 9 = σ2 98 6) (pr5 : σ1 66 10 = σ2 101 43) (pr6 : σ1 69 2 = σ2 101 18) (pr7 : σ1 72 2 = σ2 101 25) (pr8 : σ1 63 5 = σ2 98 7) (pr9 : σ1 64 2 ≤ σ1 64 1) (pr10 : d_RD σ1 σ2) (pr11 : c2 = σ2 101 25) (pc0 : ((σ1 63 2 = 0) ∧ (σ1 64 3 = 0) ∧ (0 ≤ σ1 72 2 ∧ σ1 72 2 ≤ 2) ∧ (σ2 98 13 = 0) ∧ (σ2 98 17 = 0) ∧ (0 ≤ σ2 101 25 ∧ σ2 101 25 ≤ 2) ∧ (σ1 64 4 = σ1 64 1)) ∨ ((σ1 63 2 = 0) ∧ (σ1 64 3 = 1) ∧ (0 ≤ σ1 72 2 ∧ σ1 72 2 ≤ 2) ∧ (σ2 98 13 = 0) ∧ (σ2 98 17 = 1) ∧ (0 ≤ σ2 101 25 ∧ σ2 101 25 ≤ 2) ∧ (σ1 64 4 < σ1 64 2)) ∨ ((σ1 63 2 = 0) ∧ (σ1 64 3 = 2) ∧ (0 ≤ σ1 72 2 ∧ σ1 72 2 ≤ 2) ∧ (σ2 98 13 = 0) ∧ (σ2 98 17 = 2) ∧ (0 ≤ σ2 101 25 ∧ σ2 101 25 ≤ 2) ∧ (0 ≤ σ1 64 5 ∧ σ1 64 5 ≤ 99) ∧ (0 ≤ σ2 98 18 ∧ σ2 98 18 ≤ 99) ∧ (σ1 64 5 = σ2 98 18) ∧ (σ1 64 4 < σ1 64 2)) ∨ ((σ1 63 2 = 0) ∧ (σ1 64 3 = 3) ∧ (0 ≤ σ1 72 2 ∧ σ1 72 2 ≤ 2) ∧ (σ2 98 13 = 0) ∧ (σ2 98 17 = 3) ∧ (0 ≤ σ2 101 25 ∧ σ2 101 25 ≤ 2) ∧ (σ1 64 4 < σ1 64 2))) {cs1 cs2 : List d_Fr} {Q : d_Q} (kx0 : ∀ (s t : h_S), h_I s → h_I t → h_F (k_in k_pl) s σ1 → h_F (k_in k_pm) t σ2 → (s 64 2 = t 98 15) → (s 64 4 = t 98 16) → (s 63 2 = t 98 13) → (s 64 2 ≤ s 64 1) → (σ1 64 2 ≤ s 64 2) → (d_ok s t) → (((1 ≤ s 63 2 ∧ s 63 2 ≤ 6) ∧ (1 ≤ t 98 13 ∧ t 98 13 ≤ 6) ∧ (s 63 2 = t 98 13) ∧ (s 63 3 = t 98 14)) ∨ ((s 63 2 = 0) ∧ (s 64 3 = 0) ∧ (t 98 13 = 0) ∧ (t 98 17 = 0) ∧ (s 64 4 = s 64 1)) ∨ ((s 63 2 = 0) ∧ (s 64 3 = 1) ∧ (t 98 13 = 0) ∧ (t 98 17 = 1) ∧ (s 64 4 < s 64 2)) ∨ ((s 63 2 = 0) ∧ (s 64 3 = 2) ∧ (t 98 13 = 0) ∧ (t 98 17 = 2) ∧ (0 ≤ s 64 5 ∧ s 64 5 ≤ 99) ∧ (0 ≤ t 98 18 ∧ t 98 18 ≤ 99) ∧ (s 64 5 = t 98 18) ∧ (s 64 4 < s 64 2)) ∨ ((s 63 2 = 0) ∧ (s 64 3 = 3) ∧ (t 98 13 = 0) ∧ (t 98 17 = 3) ∧ (s 64 4 < s 64 2) ∧ ((s 64 2 = σ1 64 2 ∧ s 64 3 = σ1 64 3) ∨ σ1 64 2 < s 64 2))) → ∀ lv2 mem2, h_loc [(0, .ref 98)] lv2 → h_R (g_Y ns) t mem2 → h_T g_P (g_Y ns) 60 64 [(0, .ref 63)] [] s (d_cs g_P (g_Y ns) cs1 (d_L g_P (g_Y ns) (151, 73, lv2, []) cs2 mem2 Q))) : ∀ lv2 mem2, h_loc [(0, .ref 98), (1, .int (Int32.ofInt 19)), (2, .int y2)] lv2 → h_R (g_Y ns) σ2 mem2 → h_T g_P (g_Y ns) 60 8 [(0, .ref 63), (1, .ref 72)] [] σ1 (d_cs g_P (g_Y ns) cs1 (d_L g_P (g_Y ns) (151, 0, lv2, []) cs2 mem2 Q)) := by
  intro lv2 mem2 hl2 hR2
  have hT := hTL.1
  have hL := hTL.2
  have F1 : h_F (k_in k_pl) σ1 σ1 := h_F.rf
  have F2 : h_F (k_in k_pm) σ2 σ2 := h_F.rf
  have ge0 := tf_64_1 hI1
  have ge1 := tf_66_8 hI1
  have ge2 := tf_66_9 hI1
  have ge3 := tf_66_10 hI1
  have ge4 := tf_69_2 hI1
  have ge5 := tf_72_2 hI1
  have ge6 := tf_63_5 hI1
  have ge7 := tf_63_2 hI1
  have ge8 := tf_98_8 hI2
  have ge9 := tf_98_9 hI2
  have ge10 := tf_98_13 hI2
  show h_T g_P (g_Y ns) 60 8 [(0, .ref 63), (1, .ref 72)] [] σ1 _
  refine h_aload_n (pc' := 9) rfl rfl rfl ?_
  refine h_iconst (pc' := 10) (x := (Int32.ofInt 5)) rfl rfl rfl ?_
  refine d_toM (g_inj ns) hl2 hR2 (fun lvw21 memw21 hlw21 hRw21 => ?_)
  show h_T g_P (g_Y ns) 151 0 [(0, .ref 98), (1, .int (Int32.ofInt 19)), (2, .int y2)] [] σ2 _
  refine h_aload_n (pc' := 1) rfl rfl rfl ?_
  refine d_call (g_inj ns) (pc' := 4) (m := 150) (M := [(0, .ref 98)]) (rest := []) ⟨false, _, _, _, _, _, _, rfl, rfl, rfl, rfl, rfl, rfl, rfl⟩ (fun lv22 hlv22 => ?_)
  refine h_aload_n (pc' := 1) rfl rfl rfl ?_
  refine h_iconst (pc' := 2) (x := (Int32.ofInt 0)) rfl rfl rfl ?_
  refine h_iconst (pc' := 3) (x := (Int32.ofInt 5)) rfl rfl rfl ?_
  refine d_pcall (g_inj ns) (m1 := 58) (pc1' := 13) (M1 := [(0, .ref 63), (1, .int (Int32.ofInt 5))]) (rest1 := []) (m2 := 149) (pc2' := 6) (M2 := [(0, .ref 98), (1, .int (Int32.ofInt 0)), (2, .int (Int32.ofInt 5))]) (rest2 := []) ⟨false, _, _, _, _, _, _, rfl, rfl, rfl, rfl, rfl, rfl, rfl⟩ ⟨false, _, _, _, _, _, _, rfl, rfl, rfl, rfl, rfl, rfl, rfl⟩ hRw21 ?_
  refine pp_num hI1 hI2 (hTL.fr (F1.mono rfl) (F2.mono rfl)) (Int32.ofInt 5) _ ci_5 (Int32.ofInt 5) _ ci_5 (Int.le_antisymm (by omega) (by omega)) (Int.le_antisymm (by omega) (by omega)) (Int.le_antisymm (by omega) (by omega)) (by omega) (Int.le_antisymm (by omega) (by omega)) (⟨by omega, by omega⟩) (pc0.elim (fun pc0 => (Or.inr (Or.inl ⟨Int.le_antisymm (by omega) (by omega), Int.le_antisymm (by omega) (by omega), Int.le_antisymm (by omega) (by omega), Int.le_antisymm (by omega) (by omega), Int.le_antisymm (by omega) (by omega)⟩))) (fun pc0 => (pc0.elim (fun pc0 => (Or.inr (Or.inr (Or.inl ⟨Int.le_antisymm (by omega) (by omega), Int.le_antisymm (by omega) (by omega), Int.le_antisymm (by omega) (by omega), Int.le_antisymm (by omega) (by omega), by omega⟩)))) (fun pc0 => (pc0.elim (fun pc0 => (Or.inr (Or.inr (Or.inr (Or.inl ⟨Int.le_antisymm (by omega) (by omega), Int.le_antisymm (by omega) (by omega), Int.le_antisymm (by omega) (by omega), Int.le_antisymm (by omega) (by omega), ⟨by omega, by omega⟩, ⟨by omega, by omega⟩, Int.le_antisymm (by omega) (by omega), by omega⟩))))) (fun pc0 => (Or.inr (Or.inr (Or.inr (Or.inr ⟨Int.le_antisymm (by omega) (by omega), Int.le_antisymm (by omega) (by omega), Int.le_antisymm (by omega) (by omega), Int.le_antisymm (by omega) (by omega), by omega⟩)))))))))) (fun rq23x bq23x hq23x rq23m bq23m hq23m sq23 tq23 Isq23 Itq23 Gsq23 Gtq23 yq23_0 yq23_1 yq23_2 yq23_3 yq23_4 pcq23 memq23 hRq23 => ?_)
  have Fsq23 := (Gsq23.mono (B := k_pl) rfl).tr F1
  have Ftq23 := (Gtq23.mono (B := k_pm) rfl).tr F2
  have esq23_6 : sq23 64 1 = σ1 64 1 := (Gsq23 64 1 rfl).trans rfl
  have esq23_7 : sq23 66 8 = σ1 66 8 := (Gsq23 66 8 rfl).trans rfl
  have esq23_8 : sq23 66 9 = σ1 66 9 := (Gsq23 66 9 rfl).trans rfl
  have esq23_9 : sq23 66 10 = σ1 66 10 := (Gsq23 66 10 rfl).trans rfl
  have esq23_10 : sq23 69 2 = σ1 69 2 := (Gsq23 69 2 rfl).trans rfl
  have esq23_11 : sq23 72 2 = σ1 72 2 := (Gsq23 72 2 rfl).trans rfl
  have esq23_12 : sq23 63 5 = σ1 63 5 := (Gsq23 63 5 rfl).trans rfl
  have etq23_6 : tq23 98 5 = σ2 98 5 := (Gtq23 98 5 rfl).trans rfl
  have etq23_7 : tq23 98 6 = σ2 98 6 := (Gtq23 98 6 rfl).trans rfl
  have etq23_8 : tq23 98 7 = σ2 98 7 := (Gtq23 98 7 rfl).trans rfl
  have etq23_9 : tq23 98 8 = σ2 98 8 := (Gtq23 98 8 rfl).trans rfl
  have etq23_10 : tq23 98 9 = σ2 98 9 := (Gtq23 98 9 rfl).trans rfl
  have etq23_11 : tq23 101 18 = σ2 101 18 := (Gtq23 101 18 rfl).trans rfl
  have etq23_12 : tq23 101 25 = σ2 101 25 := (Gtq23 101 25 rfl).trans rfl
  have etq23_13 : tq23 101 43 = σ2 101 43 := (Gtq23 101 43 rfl).trans rfl
  rcases pcq23 with pcq23 | pcq23
  · show h_T g_P (g_Y ns) 150 6 [(0, .ref 98)] [.int rq23m] tq23 _
    refine h_istore_n (pc' := 7) (M := [(1, .int rq23m), (0, .ref 98)]) rfl rfl rfl rfl ?_
    have oH24 : tq23 98 8 = σ2 98 8 := etq23_9
    have uH24 := tf_98_8 Itq23
    refine h_wk [(0, .ref 98), (1, .int rq23m)] ⟨rfl, rfl, trivial⟩ (lm_hi _ Itq23 rq23m _ hq23m (by omega) (fun H24 hH24 => (h_fgt (E := fun s => s 98 15 = tq23 98 15 ∧ s 98 16 = tq23 98 16 ∧ s 98 17 = tq23 98 17 ∧ s 98 18 = tq23 98 18 ∧ s 98 13 = tq23 98 13 ∧ s 98 14 = tq23 98 14 ∧ s 98 5 = σ2 98 5 ∧ s 98 6 = σ2 98 6 ∧ s 98 7 = σ2 98 7 ∧ s 98 8 = H24 ∧ s 98 9 = σ2 98 9 ∧ s 101 18 = σ2 101 18 ∧ s 101 25 = σ2 101 25 ∧ s 101 43 = σ2 101 43 ∧ s = h_up tq23 98 8 H24) _ (if_98_8 Itq23 (by omega)) (Ftq23.up rfl) ⟨rfl, rfl, rfl, rfl, rfl, rfl, etq23_6, etq23_7, etq23_8, rfl, etq23_10, etq23_11, etq23_12, etq23_13, rfl⟩ (fun s25 Is25 Fs25 (es25 : s25 98 15 = tq23 98 15 ∧ s25 98 16 = tq23 98 16 ∧ s25 98 17 = tq23 98 17 ∧ s25 98 18 = tq23 98 18 ∧ s25 98 13 = tq23 98 13 ∧ s25 98 14 = tq23 98 14 ∧ s25 98 5 = σ2 98 5 ∧ s25 98 6 = σ2 98 6 ∧ s25 98 7 = σ2 98 7 ∧ s25 98 8 = H24 ∧ s25 98 9 = σ2 98 9 ∧ s25 101 18 = σ2 101 18 ∧ s25 101 25 = σ2 101 25 ∧ s25 101 43 = σ2 101 43 ∧ s25 = h_up tq23 98 8 H24) => ?_))))
    have us25 := es25.2.2.2.2.2.2.2.2.2.2.2.2.2.2
    refine h_iload_n (pc' := 28) rfl rfl rfl ?_
    refine h_iret rfl rfl (d_ret hlv22 ?_)
    refine h_istore_n (pc' := 5) (M := [(3, .int rq23m), (0, .ref 98), (1, .int (Int32.ofInt 19)), (2, .int y2)]) rfl rfl rfl rfl ?_
    refine h_aload_n (pc' := 6) rfl rfl rfl ?_
    refine h_getI (pc' := 9) (v := tq23 98 13) rfl rfl rfl rfl rfl es25.2.2.2.2.1 (fun z26 hz26 => ?_)
    have tz26 := tf_98_13 Itq23
    refine h_zne (tg := 33) (pc' := 12) rfl rfl rfl hz26 (fun c27 => ?_) (fun c27 => absurd c27 (by omega))
    clear hz26
    refine h_aload_n (pc' := 34) rfl rfl rfl ?_
    refine h_getR (pc' := 37) rfl rfl rfl rfl rfl ?_
    refine h_iload_n (pc' := 38) rfl rfl rfl ?_
    refine h_iconst (pc' := 39) (x := (Int32.ofInt 2)) rfl rfl rfl ?_
    refine h_iload_n (pc' := 40) rfl rfl rfl ?_
    refine h_imul (pc' := 41) rfl rfl ci_2 hy2 rfl (by omega) (by omega) (fun z28 hz28 => ?_)
    refine h_iadd (pc' := 42) rfl rfl ci_19 hz28 rfl (by omega) (by omega) (fun z29 hz29 => ?_)
    clear hz28
    refine h_iload_n (pc' := 43) rfl rfl rfl ?_
    refine h_iast (pc' := 44) rfl rfl rfl rfl hz29 (by omega) (by omega) hq23m (h_fgt (E := fun s => s 98 15 = tq23 98 15 ∧ s 98 16 = tq23 98 16 ∧ s 98 17 = tq23 98 17 ∧ s 98 18 = tq23 98 18 ∧ s 98 13 = tq23 98 13 ∧ s 98 14 = tq23 98 14 ∧ s 98 5 = σ2 98 5 ∧ s 98 6 = σ2 98 6 ∧ s 98 7 = σ2 98 7 ∧ s 98 8 = H24 ∧ s 98 9 = σ2 98 9 ∧ s 101 18 = σ2 101 18 ∧ s 101 25 = σ2 101 25 ∧ s 101 43 = σ2 101 43 ∧ s = h_up s25 101 (19 + (2 * c2)) bq23m) _ (ip_101_4 Is25 (by omega) (by omega)) (Fs25.up rfl) ⟨es25.1, es25.2.1, es25.2.2.1, es25.2.2.2.1, es25.2.2.2.2.1, es25.2.2.2.2.2.1, es25.2.2.2.2.2.2.1, es25.2.2.2.2.2.2.2.1, es25.2.2.2.2.2.2.2.2.1, es25.2.2.2.2.2.2.2.2.2.1, es25.2.2.2.2.2.2.2.2.2.2.1, h_up_n2 (by omega) es25.2.2.2.2.2.2.2.2.2.2.2.1, h_up_n2 (by omega) es25.2.2.2.2.2.2.2.2.2.2.2.2.1, h_up_n2 (by omega) es25.2.2.2.2.2.2.2.2.2.2.2.2.2.1, rfl⟩ (fun s30 Is30 Fs30 (es30 : s30 98 15 = tq23 98 15 ∧ s30 98 16 = tq23 98 16 ∧ s30 98 17 = tq23 98 17 ∧ s30 98 18 = tq23 98 18 ∧ s30 98 13 = tq23 98 13 ∧ s30 98 14 = tq23 98 14 ∧ s30 98 5 = σ2 98 5 ∧ s30 98 6 = σ2 98 6 ∧ s30 98 7 = σ2 98 7 ∧ s30 98 8 = H24 ∧ s30 98 9 = σ2 98 9 ∧ s30 101 18 = σ2 101 18 ∧ s30 101 25 = σ2 101 25 ∧ s30 101 43 = σ2 101 43 ∧ s30 = h_up s25 101 (19 + (2 * c2)) bq23m) => ?_))
    clear es25
    have us30 := es30.2.2.2.2.2.2.2.2.2.2.2.2.2.2
    clear hz29
    refine h_aload_n (pc' := 45) rfl rfl rfl ?_
    refine h_getR (pc' := 48) rfl rfl rfl rfl rfl ?_
    refine h_iload_n (pc' := 49) rfl rfl rfl ?_
    refine h_iconst (pc' := 50) (x := (Int32.ofInt 2)) rfl rfl rfl ?_
    refine h_iload_n (pc' := 51) rfl rfl rfl ?_
    refine h_imul (pc' := 52) rfl rfl ci_2 hy2 rfl (by omega) (by omega) (fun z31 hz31 => ?_)
    refine h_iadd (pc' := 53) rfl rfl ci_19 hz31 rfl (by omega) (by omega) (fun z32 hz32 => ?_)
    clear hz31
    refine h_iconst (pc' := 54) (x := (Int32.ofInt 1)) rfl rfl rfl ?_
    refine h_iadd (pc' := 55) rfl rfl hz32 ci_1 rfl (by omega) (by omega) (fun z33 hz33 => ?_)
    clear hz32
    refine h_aload_n (pc' := 56) rfl rfl rfl ?_
    refine d_call (g_inj ns) (pc' := 59) (m := 150) (M := [(0, .ref 98)]) (rest := [.int z33, .ref 101]) ⟨false, _, _, _, _, _, _, rfl, rfl, rfl, rfl, rfl, rfl, rfl⟩ (fun lv34 hlv34 => ?_)
    refine h_aload_n (pc' := 1) rfl rfl rfl ?_
    refine h_iconst (pc' := 2) (x := (Int32.ofInt 0)) rfl rfl rfl ?_
    refine h_iconst (pc' := 3) (x := (Int32.ofInt 5)) rfl rfl rfl ?_
    refine h_call (sp := false) (pc' := 6) (M := [(0, .ref 98), (1, .int (Int32.ofInt 0)), (2, .int (Int32.ofInt 5))]) rfl rfl rfl rfl rfl rfl rfl rfl ?_
    refine h_aload_n (pc' := 1) rfl rfl rfl ?_
    refine h_getI (pc' := 4) (v := tq23 98 13) rfl rfl rfl rfl rfl es30.2.2.2.2.1 (fun z35 hz35 => ?_)
    refine h_zne (tg := 20) (pc' := 7) rfl rfl rfl hz35 (fun c36 => ?_) (fun c36 => absurd c36 (by omega))
    clear hz35
    refine h_aload_n (pc' := 21) rfl rfl rfl ?_
    refine h_getI (pc' := 24) (v := tq23 98 13) rfl rfl rfl rfl rfl es30.2.2.2.2.1 (fun z37 hz37 => ?_)
    refine h_zne (tg := 47) (pc' := 27) rfl rfl rfl hz37 (fun c38 => ?_) (fun c38 => absurd c38 (by omega))
    clear hz37
    refine h_aload_n (pc' := 48) rfl rfl rfl ?_
    refine h_getI (pc' := 51) (v := tq23 98 13) rfl rfl rfl rfl rfl es30.2.2.2.2.1 (fun z39 hz39 => ?_)
    refine h_zne (tg := 61) (pc' := 54) rfl rfl rfl hz39 (fun c40 => ?_) (fun c40 => absurd c40 (by omega))
    clear hz39
    refine h_iload_n (pc' := 62) rfl rfl rfl ?_
    refine h_istore_n (pc' := 63) (M := [(3, .int (Int32.ofInt 0)), (0, .ref 98), (1, .int (Int32.ofInt 0)), (2, .int (Int32.ofInt 5))]) rfl rfl rfl rfl ?_
    refine h_aload_n (pc' := 64) rfl rfl rfl ?_
    refine h_call (sp := false) (pc' := 67) (M := [(0, .ref 98)]) rfl rfl rfl rfl rfl rfl rfl rfl ?_
    refine h_aload_n (pc' := 1) rfl rfl rfl ?_
    refine h_getI (pc' := 4) (v := tq23 98 13) rfl rfl rfl rfl rfl es30.2.2.2.2.1 (fun z41 hz41 => ?_)
    refine h_zle (tg := 8) (pc' := 7) rfl rfl rfl hz41 (fun c42 => absurd c42 (by omega)) (fun c42 => ?_)
    clear hz41
    refine h_vret rfl rfl (h_Kn ?_)
    refine h_iload_n (pc' := 68) rfl rfl rfl ?_
    refine h_iret rfl rfl (h_Kv ?_)
    refine h_istore_n (pc' := 7) (M := [(1, .int (Int32.ofInt 0)), (0, .ref 98)]) rfl rfl rfl rfl ?_
    have oH43 : s30 98 8 = H24 := es30.2.2.2.2.2.2.2.2.2.1
    have uH43 := tf_98_8 Is30
    refine h_wk [(0, .ref 98), (1, .int (Int32.ofInt 0))] ⟨rfl, rfl, trivial⟩ (lm_hi _ Is30 (Int32.ofInt 0) _ ci_0 (by omega) (fun H43 hH43 => (h_fgt (E := fun s => s 98 15 = tq23 98 15 ∧ s 98 16 = tq23 98 16 ∧ s 98 17 = tq23 98 17 ∧ s 98 18 = tq23 98 18 ∧ s 98 13 = tq23 98 13 ∧ s 98 14 = tq23 98 14 ∧ s 98 5 = σ2 98 5 ∧ s 98 6 = σ2 98 6 ∧ s 98 7 = σ2 98 7 ∧ s 98 8 = H43 ∧ s 98 9 = σ2 98 9 ∧ s 101 18 = σ2 101 18 ∧ s 101 25 = σ2 101 25 ∧ s 101 43 = σ2 101 43 ∧ s = h_up s30 98 8 H43) _ (if_98_8 Is30 (by omega)) (Fs30.up rfl) ⟨es30.1, es30.2.1, es30.2.2.1, es30.2.2.2.1, es30.2.2.2.2.1, es30.2.2.2.2.2.1, es30.2.2.2.2.2.2.1, es30.2.2.2.2.2.2.2.1, es30.2.2.2.2.2.2.2.2.1, rfl, es30.2.2.2.2.2.2.2.2.2.2.1, es30.2.2.2.2.2.2.2.2.2.2.2.1, es30.2.2.2.2.2.2.2.2.2.2.2.2.1, es30.2.2.2.2.2.2.2.2.2.2.2.2.2.1, rfl⟩ (fun s44 Is44 Fs44 (es44 : s44 98 15 = tq23 98 15 ∧ s44 98 16 = tq23 98 16 ∧ s44 98 17 = tq23 98 17 ∧ s44 98 18 = tq23 98 18 ∧ s44 98 13 = tq23 98 13 ∧ s44 98 14 = tq23 98 14 ∧ s44 98 5 = σ2 98 5 ∧ s44 98 6 = σ2 98 6 ∧ s44 98 7 = σ2 98 7 ∧ s44 98 8 = H43 ∧ s44 98 9 = σ2 98 9 ∧ s44 101 18 = σ2 101 18 ∧ s44 101 25 = σ2 101 25 ∧ s44 101 43 = σ2 101 43 ∧ s44 = h_up s30 98 8 H43) => ?_))))
    clear es30
    have us44 := es44.2.2.2.2.2.2.2.2.2.2.2.2.2.2
    refine h_iload_n (pc' := 28) rfl rfl rfl ?_
    refine h_iret rfl rfl (d_ret hlv34 ?_)
    refine h_iast (pc' := 60) rfl rfl rfl rfl hz33 (by omega) (by omega) ci_0 (h_fgt (E := fun s => s 98 15 = tq23 98 15 ∧ s 98 16 = tq23 98 16 ∧ s 98 17 = tq23 98 17 ∧ s 98 18 = tq23 98 18 ∧ s 98 13 = tq23 98 13 ∧ s 98 14 = tq23 98 14 ∧ s 98 5 = σ2 98 5 ∧ s 98 6 = σ2 98 6 ∧ s 98 7 = σ2 98 7 ∧ s 98 8 = H43 ∧ s 98 9 = σ2 98 9 ∧ s 101 18 = σ2 101 18 ∧ s 101 25 = σ2 101 25 ∧ s 101 43 = σ2 101 43 ∧ s = h_up s44 101 ((19 + (2 * c2)) + 1) 0) _ (ip_101_4 Is44 (by omega) (by omega)) (Fs44.up rfl) ⟨es44.1, es44.2.1, es44.2.2.1, es44.2.2.2.1, es44.2.2.2.2.1, es44.2.2.2.2.2.1, es44.2.2.2.2.2.2.1, es44.2.2.2.2.2.2.2.1, es44.2.2.2.2.2.2.2.2.1, es44.2.2.2.2.2.2.2.2.2.1, es44.2.2.2.2.2.2.2.2.2.2.1, h_up_n2 (by omega) es44.2.2.2.2.2.2.2.2.2.2.2.1, h_up_n2 (by omega) es44.2.2.2.2.2.2.2.2.2.2.2.2.1, h_up_n2 (by omega) es44.2.2.2.2.2.2.2.2.2.2.2.2.2.1, rfl⟩ (fun s45 Is45 Fs45 (es45 : s45 98 15 = tq23 98 15 ∧ s45 98 16 = tq23 98 16 ∧ s45 98 17 = tq23 98 17 ∧ s45 98 18 = tq23 98 18 ∧ s45 98 13 = tq23 98 13 ∧ s45 98 14 = tq23 98 14 ∧ s45 98 5 = σ2 98 5 ∧ s45 98 6 = σ2 98 6 ∧ s45 98 7 = σ2 98 7 ∧ s45 98 8 = H43 ∧ s45 98 9 = σ2 98 9 ∧ s45 101 18 = σ2 101 18 ∧ s45 101 25 = σ2 101 25 ∧ s45 101 43 = σ2 101 43 ∧ s45 = h_up s44 101 ((19 + (2 * c2)) + 1) 0) => ?_))
    clear es44
    have us45 := es45.2.2.2.2.2.2.2.2.2.2.2.2.2.2
    clear hz33
    refine h_aload_n (pc' := 61) rfl rfl rfl ?_
    refine h_getR (pc' := 64) rfl rfl rfl rfl rfl ?_
    refine h_iload_n (pc' := 65) rfl rfl rfl ?_
    refine h_bipush (pc' := 67) (x := (Int32.ofInt 6)) rfl rfl cb_6 ?_
    refine h_iadd (pc' := 68) (c := 25) rfl rfl ci_19 ci_6 rfl (by omega) (by omega) (fun z46 hz46 => ?_)
    refine h_dup2 (pc' := 69) rfl rfl rfl ?_
    refine h_iald (pc' := 70) (v := σ2 101 25) rfl rfl rfl hz46 (by omega) (by omega) es45.2.2.2.2.2.2.2.2.2.2.2.2.1 (fun z47 hz47 => ?_)
    have tz47 := ty_101_5 hI2 25 (by omega)
    refine h_iconst (pc' := 71) (x := (Int32.ofInt 1)) rfl rfl rfl ?_
    refine h_iadd (pc' := 72) rfl rfl hz47 ci_1 rfl (by omega) (by omega) (fun z48 hz48 => ?_)
    clear hz47
    refine h_iast (pc' := 73) rfl rfl rfl rfl hz46 (by omega) (by omega) hz48 (h_fgt (E := fun s => s 98 15 = tq23 98 15 ∧ s 98 16 = tq23 98 16 ∧ s 98 17 = tq23 98 17 ∧ s 98 18 = tq23 98 18 ∧ s 98 13 = tq23 98 13 ∧ s 98 14 = tq23 98 14 ∧ s 98 5 = σ2 98 5 ∧ s 98 6 = σ2 98 6 ∧ s 98 7 = σ2 98 7 ∧ s 98 8 = H43 ∧ s 98 9 = σ2 98 9 ∧ s 101 18 = σ2 101 18 ∧ s 101 25 = ((σ2 101 25) + 1) ∧ s 101 43 = σ2 101 43 ∧ s = h_up s45 101 25 ((σ2 101 25) + 1)) _ (ip_101_5 Is45 (by omega) (by omega)) (Fs45.up rfl) ⟨es45.1, es45.2.1, es45.2.2.1, es45.2.2.2.1, es45.2.2.2.2.1, es45.2.2.2.2.2.1, es45.2.2.2.2.2.2.1, es45.2.2.2.2.2.2.2.1, es45.2.2.2.2.2.2.2.2.1, es45.2.2.2.2.2.2.2.2.2.1, es45.2.2.2.2.2.2.2.2.2.2.1, es45.2.2.2.2.2.2.2.2.2.2.2.1, rfl, es45.2.2.2.2.2.2.2.2.2.2.2.2.2.1, rfl⟩ (fun s49 Is49 Fs49 (es49 : s49 98 15 = tq23 98 15 ∧ s49 98 16 = tq23 98 16 ∧ s49 98 17 = tq23 98 17 ∧ s49 98 18 = tq23 98 18 ∧ s49 98 13 = tq23 98 13 ∧ s49 98 14 = tq23 98 14 ∧ s49 98 5 = σ2 98 5 ∧ s49 98 6 = σ2 98 6 ∧ s49 98 7 = σ2 98 7 ∧ s49 98 8 = H43 ∧ s49 98 9 = σ2 98 9 ∧ s49 101 18 = σ2 101 18 ∧ s49 101 25 = ((σ2 101 25) + 1) ∧ s49 101 43 = σ2 101 43 ∧ s49 = h_up s45 101 25 ((σ2 101 25) + 1)) => ?_))
    clear es45
    have us49 := es49.2.2.2.2.2.2.2.2.2.2.2.2.2.2
    clear hz46
    refine d_toL (g_inj ns) hlw21 hRq23 (fun lvw50 memw50 hlw50 hRw50 => ?_)
    show h_T g_P (g_Y ns) 60 13 [(0, .ref 63), (1, .ref 72)] [.int rq23x] sq23 _
    refine h_istore_n (pc' := 14) (M := [(2, .int rq23x), (0, .ref 63), (1, .ref 72)]) rfl rfl rfl rfl ?_
    refine h_aload_n (pc' := 15) rfl rfl rfl ?_
    refine h_call (sp := false) (pc' := 18) (M := [(0, .ref 63)]) rfl rfl rfl rfl rfl rfl rfl rfl ?_
    refine h_aload_n (pc' := 1) rfl rfl rfl ?_
    refine h_getI (pc' := 4) (v := sq23 63 2) rfl rfl rfl rfl rfl rfl (fun z51 hz51 => ?_)
    have tz51 := tf_63_2 Isq23
    refine h_zne (tg := 22) (pc' := 7) rfl rfl rfl hz51 (fun c52 => ?_) (fun c52 => absurd c52 (by omega))
    clear hz51
    refine h_iconst (pc' := 23) (x := (Int32.ofInt 0)) rfl rfl rfl ?_
    refine h_zret rfl rfl ci_0 (by omega) (h_Kv ?_)
    refine h_zeq (tg := 44) (pc' := 21) rfl rfl rfl ci_0 (fun c53 => ?_) (fun c53 => absurd (Int.le_antisymm (by omega) (by omega)) c53)
    refine h_aload_n (pc' := 45) rfl rfl rfl ?_
    refine h_iconst (pc' := 46) (x := (Int32.ofInt 5)) rfl rfl rfl ?_
    refine h_call (sp := false) (pc' := 49) (M := [(0, .ref 63), (1, .int (Int32.ofInt 5))]) rfl rfl rfl rfl rfl rfl rfl rfl ?_
    refine h_aload_n (pc' := 1) rfl rfl rfl ?_
    refine h_getI (pc' := 4) (v := sq23 63 2) rfl rfl rfl rfl rfl rfl (fun z54 hz54 => ?_)
    refine h_zne (tg := 30) (pc' := 7) rfl rfl rfl hz54 (fun c55 => ?_) (fun c55 => absurd c55 (by omega))
    clear hz54
    refine h_aload_n (pc' := 31) rfl rfl rfl ?_
    refine h_getI (pc' := 34) (v := sq23 63 2) rfl rfl rfl rfl rfl rfl (fun z56 hz56 => ?_)
    refine h_zne (tg := 60) (pc' := 37) rfl rfl rfl hz56 (fun c57 => ?_) (fun c57 => absurd c57 (by omega))
    clear hz56
    refine h_aload_n (pc' := 61) rfl rfl rfl ?_
    refine h_getR (pc' := 64) rfl rfl rfl rfl rfl ?_
    refine h_getI (pc' := 67) (v := sq23 64 5) rfl rfl rfl rfl rfl rfl (fun z58 hz58 => ?_)
    have tz58 := tf_64_5 Isq23
    refine h_istore_n (pc' := 68) (M := [(2, .int z58), (0, .ref 63), (1, .int (Int32.ofInt 5))]) rfl rfl rfl rfl ?_
    refine h_aload_n (pc' := 69) rfl rfl rfl ?_
    refine h_call (sp := false) (pc' := 72) (M := [(0, .ref 63)]) rfl rfl rfl rfl rfl rfl rfl rfl ?_
    refine h_aload_n (pc' := 1) rfl rfl rfl ?_
    refine h_getI (pc' := 4) (v := sq23 63 2) rfl rfl rfl rfl rfl rfl (fun z59 hz59 => ?_)
    refine h_zne (tg := 37) (pc' := 7) rfl rfl rfl hz59 (fun c60 => ?_) (fun c60 => absurd c60 (by omega))
    clear hz59
    refine h_vret rfl rfl (h_Kn ?_)
    refine h_iload_n (pc' := 73) rfl rfl rfl ?_
    refine h_iret rfl rfl (h_Kv ?_)
    refine h_istore_n (pc' := 50) (M := [(3, .int z58), (2, .int rq23x), (0, .ref 63), (1, .ref 72)]) rfl rfl rfl rfl ?_
    refine h_aload_n (pc' := 51) rfl rfl rfl ?_
    refine h_getI (pc' := 54) (v := sq23 63 2) rfl rfl rfl rfl rfl rfl (fun z61 hz61 => ?_)
    refine h_zne (tg := 64) (pc' := 57) rfl rfl rfl hz61 (fun c62 => ?_) (fun c62 => absurd c62 (by omega))
    clear hz61
    exact h_wk [(0, .ref 63)] ⟨rfl, trivial⟩ (kx0 _ _ Isq23 Is49 Fsq23 Fs49 (Int.le_antisymm (by omega) (by omega)) (Int.le_antisymm (by omega) (by omega)) (Int.le_antisymm (by omega) (by omega)) (by omega) (by omega) (fun h => absurd h (by omega)) (Or.inl ⟨⟨by omega, by omega⟩, ⟨by omega, by omega⟩, Int.le_antisymm (by omega) (by omega), Int.le_antisymm (by omega) (by omega)⟩) _ _ (h_al_ok ⟨rfl, trivial⟩ hlw50) hRw50)
  · show h_T g_P (g_Y ns) 150 6 [(0, .ref 98)] [.int rq23m] tq23 _
    refine h_istore_n (pc' := 7) (M := [(1, .int rq23m), (0, .ref 98)]) rfl rfl rfl rfl ?_
    have oH63 : tq23 98 8 = σ2 98 8 := etq23_9
    have uH63 := tf_98_8 Itq23
    refine h_wk [(0, .ref 98), (1, .int rq23m)] ⟨rfl, rfl, trivial⟩ (lm_hi _ Itq23 rq23m _ hq23m (by omega) (fun H63 hH63 => (h_fgt (E := fun s => s 98 15 = tq23 98 15 ∧ s 98 16 = tq23 98 16 ∧ s 98 17 = tq23 98 17 ∧ s 98 18 = tq23 98 18 ∧ s 98 13 = tq23 98 13 ∧ s 98 14 = tq23 98 14 ∧ s 98 5 = σ2 98 5 ∧ s 98 6 = σ2 98 6 ∧ s 98 7 = σ2 98 7 ∧ s 98 8 = H63 ∧ s 98 9 = σ2 98 9 ∧ s 101 18 = σ2 101 18 ∧ s 101 25 = σ2 101 25 ∧ s 101 43 = σ2 101 43 ∧ s = h_up tq23 98 8 H63) _ (if_98_8 Itq23 (by omega)) (Ftq23.up rfl) ⟨rfl, rfl, rfl, rfl, rfl, rfl, etq23_6, etq23_7, etq23_8, rfl, etq23_10, etq23_11, etq23_12, etq23_13, rfl⟩ (fun s64 Is64 Fs64 (es64 : s64 98 15 = tq23 98 15 ∧ s64 98 16 = tq23 98 16 ∧ s64 98 17 = tq23 98 17 ∧ s64 98 18 = tq23 98 18 ∧ s64 98 13 = tq23 98 13 ∧ s64 98 14 = tq23 98 14 ∧ s64 98 5 = σ2 98 5 ∧ s64 98 6 = σ2 98 6 ∧ s64 98 7 = σ2 98 7 ∧ s64 98 8 = H63 ∧ s64 98 9 = σ2 98 9 ∧ s64 101 18 = σ2 101 18 ∧ s64 101 25 = σ2 101 25 ∧ s64 101 43 = σ2 101 43 ∧ s64 = h_up tq23 98 8 H63) => ?_))))
    have us64 := es64.2.2.2.2.2.2.2.2.2.2.2.2.2.2
    refine h_iload_n (pc' := 28) rfl rfl rfl ?_
    refine h_iret rfl rfl (d_ret hlv22 ?_)
    refine h_istore_n (pc' := 5) (M := [(3, .int rq23m), (0, .ref 98), (1, .int (Int32.ofInt 19)), (2, .int y2)]) rfl rfl rfl rfl ?_
    refine d_toL (g_inj ns) hlw21 hRq23 (fun lvw65 memw65 hlw65 hRw65 => ?_)
    show h_T g_P (g_Y ns) 60 13 [(0, .ref 63), (1, .ref 72)] [.int rq23x] sq23 _
    refine h_istore_n (pc' := 14) (M := [(2, .int rq23x), (0, .ref 63), (1, .ref 72)]) rfl rfl rfl rfl ?_
    refine h_wk [(0, .ref 63), (1, .ref 72), (2, .int rq23x)] ⟨rfl, rfl, rfl, trivial⟩ (ls_feu_c Isq23 Is64 (hTL.fr (Fsq23.mono rfl) (Fs64.mono rfl)) rq23x _ hq23x y2 _ hy2 rq23m _ hq23m (σ2 98 8) (Int.le_antisymm (by omega) (by omega)) (Int.le_antisymm (by omega) (by omega)) (Int.le_antisymm (by omega) (by omega)) (Int.le_antisymm (by omega) (by omega)) (Int.le_antisymm (by omega) (by omega)) (Int.le_antisymm (by omega) (by omega)) (Int.le_antisymm (by omega) (by omega)) (Int.le_antisymm (by omega) (by omega)) (Int.le_antisymm (by omega) (by omega)) (by omega) (d_mkH ((Gsq23 66 8 rfl)) ((Gsq23 66 9 rfl)) ((Gsq23 66 10 rfl)) ((Gsq23 69 2 rfl)) ((Gsq23 72 2 rfl)) ((Gsq23 63 5 rfl)) (fun j => (Gsq23 67 j rfl)) (fun j => (Gsq23 68 j rfl)) (fun j => (Gsq23 70 j rfl)) (fun j => (Gsq23 71 j rfl)) (fun j => (Gsq23 73 j rfl)) (fun j => (Gsq23 74 j rfl)) (fun j => (Gsq23 75 j rfl)) (fun j => (Gsq23 76 j rfl)) (fun j => (Gsq23 77 j rfl)) (fun j => (Gsq23 78 j rfl)) ((h_upd us64 (by decide)).trans (Gtq23 98 5 rfl)) ((h_upd us64 (by decide)).trans (Gtq23 98 6 rfl)) ((h_upd us64 (by decide)).trans (Gtq23 98 7 rfl)) ((h_upd us64 (by decide)).trans (Gtq23 98 9 rfl)) (fun j => (h_upo us64 rfl j).trans (Gtq23 101 j rfl)) (pr10)) (Int.le_antisymm (by omega) (by omega)) (⟨by omega, by omega⟩) (Int.le_antisymm (by omega) (by omega)) (by omega) (by omega) (by omega) (pcq23.elim (fun pcq23 => (Or.inl ⟨Int.le_antisymm (by omega) (by omega), Int.le_antisymm (by omega) (by omega), ⟨by omega, by omega⟩, Int.le_antisymm (by omega) (by omega), Int.le_antisymm (by omega) (by omega), ⟨by omega, by omega⟩, Int.le_antisymm (by omega) (by omega)⟩)) (fun pcq23 => (pcq23.elim (fun pcq23 => (Or.inr (Or.inl ⟨Int.le_antisymm (by omega) (by omega), Int.le_antisymm (by omega) (by omega), ⟨by omega, by omega⟩, Int.le_antisymm (by omega) (by omega), Int.le_antisymm (by omega) (by omega), ⟨by omega, by omega⟩, by omega⟩))) (fun pcq23 => (pcq23.elim (fun pcq23 => (Or.inr (Or.inr (Or.inl ⟨Int.le_antisymm (by omega) (by omega), Int.le_antisymm (by omega) (by omega), ⟨by omega, by omega⟩, Int.le_antisymm (by omega) (by omega), Int.le_antisymm (by omega) (by omega), ⟨by omega, by omega⟩, ⟨by omega, by omega⟩, ⟨by omega, by omega⟩, Int.le_antisymm (by omega) (by omega), by omega⟩)))) (fun pcq23 => (Or.inr (Or.inr (Or.inr ⟨Int.le_antisymm (by omega) (by omega), Int.le_antisymm (by omega) (by omega), ⟨by omega, by omega⟩, Int.le_antisymm (by omega) (by omega), Int.le_antisymm (by omega) (by omega), ⟨by omega, by omega⟩, by omega⟩))))))))) (fun sq66 tq66 Isq66 Itq66 Gsq66 Gtq66   yq66_0 yq66_1 yq66_2 yq66_3 yq66_4 yq66_5 pcq66 lvq66 memq66 hlq66 hRq66 => ?_) _ _ (h_al_ok ⟨rfl, rfl, rfl, rfl, trivial⟩ hlw65) hRw65)
    · have Fsq66 := (Gsq66.mono (B := k_pl) rfl).tr Fsq23
      have Ftq66 := (Gtq66.mono (B := k_pm) rfl).tr Fs64
      have Isq66 := Isq66
      have Itq66 := Itq66
      have Gsq66 := Gsq66
      have Gtq66 := Gtq66
      have esq66_6 : sq66 64 1 = σ1 64 1 := (Gsq66 64 1 rfl).trans esq23_6
      show h_T g_P (g_Y ns) 60 64 [(0, .ref 63)] [] sq66 _
      clear hq23m hq23x
      refine d_toM (g_inj ns) hlq66 hRq66 (fun lvw67 memw67 hlw67 hRw67 => ?_)
      show h_T g_P (g_Y ns) 151 73 [(0, .ref 98)] [] tq66 _
      refine d_toL (g_inj ns) hlw67 hRw67 (fun lvw68 memw68 hlw68 hRw68 => ?_)
      show h_T g_P (g_Y ns) 60 64 [(0, .ref 63)] [] sq66 _
      exact h_wk [(0, .ref 63)] ⟨rfl, trivial⟩ (kx0 _ _ Isq66 Itq66 Fsq66 Ftq66 (Int.le_antisymm (by omega) (by omega)) (Int.le_antisymm (by omega) (by omega)) (Int.le_antisymm (by omega) (by omega)) (by omega) (by omega) (yq66_5) (pcq66.elim (fun pcq66 => (Or.inl ⟨⟨by omega, by omega⟩, ⟨by omega, by omega⟩, Int.le_antisymm (by omega) (by omega), Int.le_antisymm (by omega) (by omega)⟩)) (fun pcq66 => (pcq66.elim (fun pcq66 => (Or.inr (Or.inl ⟨Int.le_antisymm (by omega) (by omega), Int.le_antisymm (by omega) (by omega), Int.le_antisymm (by omega) (by omega), Int.le_antisymm (by omega) (by omega), Int.le_antisymm (by omega) (by omega)⟩))) (fun pcq66 => (pcq66.elim (fun pcq66 => (Or.inr (Or.inr (Or.inl ⟨Int.le_antisymm (by omega) (by omega), Int.le_antisymm (by omega) (by omega), Int.le_antisymm (by omega) (by omega), Int.le_antisymm (by omega) (by omega), by omega⟩)))) (fun pcq66 => (pcq66.elim (fun pcq66 => (Or.inr (Or.inr (Or.inr (Or.inl ⟨Int.le_antisymm (by omega) (by omega), Int.le_antisymm (by omega) (by omega), Int.le_antisymm (by omega) (by omega), Int.le_antisymm (by omega) (by omega), ⟨by omega, by omega⟩, ⟨by omega, by omega⟩, Int.le_antisymm (by omega) (by omega), by omega⟩))))) (fun pcq66 => (Or.inr (Or.inr (Or.inr (Or.inr ⟨Int.le_antisymm (by omega) (by omega), Int.le_antisymm (by omega) (by omega), Int.le_antisymm (by omega) (by omega), Int.le_antisymm (by omega) (by omega), by omega, by omega⟩)))))))))))) _ _ (h_al_ok ⟨rfl, trivial⟩ hlw68) hRw68)
