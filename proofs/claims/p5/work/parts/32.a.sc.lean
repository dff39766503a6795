set_option maxHeartbeats 100000000 in
theorem ls_sc {ns : Nat} {σ1 σ2 : h_S} (hI1 : h_I σ1) (hI2 : h_I σ2) (hTL : d_tape σ1 σ2)  (pr0 : σ1 64 2 = σ2 98 15) (pr1 : σ1 64 4 = σ2 98 16) (pr2 : σ1 63 2 = σ2 98 13) (pr3 : σ1 64 2 ≤ σ1 64 1) (pr4 : d_ok σ1 σ2) (pc0 : ((σ1 63 2 = 0) ∧ (σ1 64 3 = 0) ∧ (σ2 98 13 = 0) ∧ (σ2 98 17 = 0) ∧ (σ1 64 4 = σ1 64 1)) ∨ ((σ1 63 2 = 0) ∧ (σ1 64 3 = 1) ∧ (σ2 98 13 = 0) ∧ (σ2 98 17 = 1) ∧ (σ1 64 4 < σ1 64 2)) ∨ ((σ1 63 2 = 0) ∧ (σ1 64 3 = 2) ∧ (σ2 98 13 = 0) ∧ (σ2 98 17 = 2) ∧ (0 ≤ σ1 64 5 ∧ σ1 64 5 ≤ 99) ∧ (0 ≤ σ2 98 18 ∧ σ2 98 18 ≤ 99) ∧ (σ1 64 5 = σ2 98 18) ∧ (σ1 64 4 < σ1 64 2)) ∨ ((σ1 63 2 = 0) ∧ (σ1 64 3 = 3) ∧ (σ2 98 13 = 0) ∧ (σ2 98 17 = 3) ∧ (σ1 64 4 < σ1 64 2))) {cs1 cs2 : List d_Fr} {Q : d_Q} (kx0 : ∀ (s t : h_S), h_I s → h_I t → h_F (k_in k_pl) s σ1 → h_F (k_in k_pm) t σ2 → (s 64 2 = t 98 15) → (s 64 4 = t 98 16) → (s 63 2 = t 98 13) → (s 64 2 ≤ s 64 1) → (σ1 64 2 ≤ s 64 2) → (d_ok s t) → (((1 ≤ s 63 2 ∧ s 63 2 ≤ 6) ∧ (1 ≤ t 98 13 ∧ t 98 13 ≤ 6) ∧ (s 63 2 = t 98 13) ∧ (s 63 3 = t 98 14)) ∨ ((s 63 2 = 0) ∧ (s 64 3 = 3) ∧ (t 98 13 = 0) ∧ (t 98 17 = 3) ∧ (s 64 4 < s 64 2))) → ∀ lv2 mem2, h_loc [(0, .ref 98)] lv2 → h_R (g_Y ns) t mem2 → h_T g_P (g_Y ns) 56 180 [(0, .ref 63)] [] s (d_cs g_P (g_Y ns) cs1 (d_L g_P (g_Y ns) (154, 165, lv2, []) cs2 mem2 Q))) : ∀ lv2 mem2, h_loc [(0, .ref 98)] lv2 → h_R (g_Y ns) σ2 mem2 → h_T g_P (g_Y ns) 56 150 [(0, .ref 63)] [] σ1 (d_cs g_P (g_Y ns) cs1 (d_L g_P (g_Y ns) (154, 145, lv2, []) cs2 mem2 Q)) := by
  intro lv2 mem2 hl2 hR2
  have hT := hTL.1
  have hL := hTL.2
  have F1 : h_F (k_in k_pl) σ1 σ1 := h_F.rf
  have F2 : h_F (k_in k_pm) σ2 σ2 := h_F.rf
  have ge0 := tf_64_1 hI1
  rcases pc0 with pc0 | pc0 | pc0 | pc0
  · show h_T g_P (g_Y ns) 56 150 [(0, .ref 63)] [] σ1 _
    refine h_aload_n (pc' := 151) rfl rfl rfl ?_
    refine h_getI (pc' := 154) (v := σ1 63 2) rfl rfl rfl rfl rfl rfl (fun z1 hz1 => ?_)
    have tz1 := tf_63_2 hI1
    refine h_zne (tg := 180) (pc' := 157) rfl rfl rfl hz1 (fun c2 => absurd c2 (by omega)) (fun c2 => ?_)
    clear hz1
    refine h_aload_n (pc' := 158) rfl rfl rfl ?_
    refine h_getR (pc' := 161) rfl rfl rfl rfl rfl ?_
    refine h_getI (pc' := 164) (v := σ1 64 3) rfl rfl rfl rfl rfl rfl (fun z3 hz3 => ?_)
    have tz3 := tf_64_3 hI1
    refine h_iconst (pc' := 165) (x := (Int32.ofInt 3)) rfl rfl rfl ?_
    refine h_ceq (tg := 180) (pc' := 168) rfl rfl rfl hz3 ci_3 (fun c4 => absurd c4 (by omega)) (fun c4 => ?_)
    clear hz3
    refine h_aload_n (pc' := 169) rfl rfl rfl ?_
    refine h_iconst (pc' := 170) (x := (Int32.ofInt 2)) rfl rfl rfl ?_
    refine h_aload_n (pc' := 171) rfl rfl rfl ?_
    refine h_getR (pc' := 174) rfl rfl rfl rfl rfl ?_
    refine h_getI (pc' := 177) (v := σ1 64 4) rfl rfl rfl rfl rfl rfl (fun z5 hz5 => ?_)
    have tz5 := tf_64_4 hI1
    refine h_call (sp := false) (pc' := 180) (M := [(0, .ref 63), (1, .int (Int32.ofInt 2)), (2, .int z5)]) rfl rfl rfl rfl rfl rfl rfl rfl ?_
    refine h_aload_n (pc' := 1) rfl rfl rfl ?_
    refine h_getI (pc' := 4) (v := σ1 63 2) rfl rfl rfl rfl rfl rfl (fun z6 hz6 => ?_)
    refine h_zne (tg := 17) (pc' := 7) rfl rfl rfl hz6 (fun c7 => absurd c7 (by omega)) (fun c7 => ?_)
    clear hz6
    refine h_aload_n (pc' := 8) rfl rfl rfl ?_
    refine h_iload_n (pc' := 9) rfl rfl rfl ?_
    refine h_put (pc' := 12) rfl rfl rfl rfl rfl rfl ci_2 rfl (h_fgt (E := fun s => s 64 2 = σ1 64 2 ∧ s 64 4 = σ1 64 4 ∧ s 64 3 = σ1 64 3 ∧ s 64 5 = σ1 64 5 ∧ s 63 2 = 2 ∧ s 63 3 = σ1 63 3 ∧ s 64 1 = σ1 64 1 ∧ s = h_up σ1 63 2 2) _ (if_63_2 hI1 (by omega)) (F1.up rfl) ⟨rfl, rfl, rfl, rfl, rfl, rfl, rfl, rfl⟩ (fun s8 Is8 Fs8 (es8 : s8 64 2 = σ1 64 2 ∧ s8 64 4 = σ1 64 4 ∧ s8 64 3 = σ1 64 3 ∧ s8 64 5 = σ1 64 5 ∧ s8 63 2 = 2 ∧ s8 63 3 = σ1 63 3 ∧ s8 64 1 = σ1 64 1 ∧ s8 = h_up σ1 63 2 2) => ?_))
    refine h_aload_n (pc' := 13) rfl rfl rfl ?_
    refine h_iload_n (pc' := 14) rfl rfl rfl ?_
    refine h_put (pc' := 17) rfl rfl rfl rfl rfl rfl hz5 rfl (h_fgt (E := fun s => s 64 2 = σ1 64 2 ∧ s 64 4 = σ1 64 4 ∧ s 64 3 = σ1 64 3 ∧ s 64 5 = σ1 64 5 ∧ s 63 2 = 2 ∧ s 63 3 = (σ1 64 4) ∧ s 64 1 = σ1 64 1 ∧ s = h_up s8 63 3 (σ1 64 4)) _ (if_63_3 Is8 (h_rgv hz5)) (Fs8.up rfl) ⟨es8.1, es8.2.1, es8.2.2.1, es8.2.2.2.1, es8.2.2.2.2.1, rfl, es8.2.2.2.2.2.2.1, rfl⟩ (fun s9 Is9 Fs9 (es9 : s9 64 2 = σ1 64 2 ∧ s9 64 4 = σ1 64 4 ∧ s9 64 3 = σ1 64 3 ∧ s9 64 5 = σ1 64 5 ∧ s9 63 2 = 2 ∧ s9 63 3 = (σ1 64 4) ∧ s9 64 1 = σ1 64 1 ∧ s9 = h_up s8 63 3 (σ1 64 4)) => ?_))
    refine h_vret rfl rfl (h_Kn ?_)
    refine d_toM (g_inj ns) hl2 hR2 (fun lvw10 memw10 hlw10 hRw10 => ?_)
    show h_T g_P (g_Y ns) 154 145 [(0, .ref 98)] [] σ2 _
    refine h_aload_n (pc' := 146) rfl rfl rfl ?_
    refine h_getI (pc' := 149) (v := σ2 98 13) rfl rfl rfl rfl rfl rfl (fun z11 hz11 => ?_)
    have tz11 := tf_98_13 hI2
    refine h_zne (tg := 165) (pc' := 152) rfl rfl rfl hz11 (fun c12 => absurd c12 (by omega)) (fun c12 => ?_)
    clear hz11
    refine h_aload_n (pc' := 153) rfl rfl rfl ?_
    refine h_getI (pc' := 156) (v := σ2 98 17) rfl rfl rfl rfl rfl rfl (fun z13 hz13 => ?_)
    have tz13 := tf_98_17 hI2
    refine h_iconst (pc' := 157) (x := (Int32.ofInt 3)) rfl rfl rfl ?_
    refine h_ceq (tg := 165) (pc' := 160) rfl rfl rfl hz13 ci_3 (fun c14 => absurd c14 (by omega)) (fun c14 => ?_)
    clear hz13
    refine h_aload_n (pc' := 161) rfl rfl rfl ?_
    refine h_iconst (pc' := 162) (x := (Int32.ofInt 2)) rfl rfl rfl ?_
    refine h_call (sp := false) (pc' := 165) (M := [(0, .ref 98), (1, .int (Int32.ofInt 2))]) rfl rfl rfl rfl rfl rfl rfl rfl ?_
    refine h_aload_n (pc' := 1) rfl rfl rfl ?_
    refine h_getI (pc' := 4) (v := σ2 98 13) rfl rfl rfl rfl rfl rfl (fun z15 hz15 => ?_)
    refine h_zne (tg := 20) (pc' := 7) rfl rfl rfl hz15 (fun c16 => absurd c16 (by omega)) (fun c16 => ?_)
    clear hz15
    refine h_aload_n (pc' := 8) rfl rfl rfl ?_
    refine h_iload_n (pc' := 9) rfl rfl rfl ?_
    refine h_put (pc' := 12) rfl rfl rfl rfl rfl rfl ci_2 rfl (h_fgt (E := fun s => s 98 15 = σ2 98 15 ∧ s 98 16 = σ2 98 16 ∧ s 98 17 = σ2 98 17 ∧ s 98 18 = σ2 98 18 ∧ s 98 13 = 2 ∧ s 98 14 = σ2 98 14 ∧ s = h_up σ2 98 13 2) _ (if_98_13 hI2 (by omega)) (F2.up rfl) ⟨rfl, rfl, rfl, rfl, rfl, rfl, rfl⟩ (fun s17 Is17 Fs17 (es17 : s17 98 15 = σ2 98 15 ∧ s17 98 16 = σ2 98 16 ∧ s17 98 17 = σ2 98 17 ∧ s17 98 18 = σ2 98 18 ∧ s17 98 13 = 2 ∧ s17 98 14 = σ2 98 14 ∧ s17 = h_up σ2 98 13 2) => ?_))
    refine h_aload_n (pc' := 13) rfl rfl rfl ?_
    refine h_aload_n (pc' := 14) rfl rfl rfl ?_
    refine h_getI (pc' := 17) (v := σ2 98 16) rfl rfl rfl rfl rfl es17.2.1 (fun z18 hz18 => ?_)
    have tz18 := tf_98_16 hI2
    refine h_put (pc' := 20) rfl rfl rfl rfl rfl rfl hz18 rfl (h_fgt (E := fun s => s 98 15 = σ2 98 15 ∧ s 98 16 = σ2 98 16 ∧ s 98 17 = σ2 98 17 ∧ s 98 18 = σ2 98 18 ∧ s 98 13 = 2 ∧ s 98 14 = (σ2 98 16) ∧ s = h_up s17 98 14 (σ2 98 16)) _ (if_98_14 Is17 (h_rgv hz18)) (Fs17.up rfl) ⟨es17.1, es17.2.1, es17.2.2.1, es17.2.2.2.1, es17.2.2.2.2.1, rfl, rfl⟩ (fun s19 Is19 Fs19 (es19 : s19 98 15 = σ2 98 15 ∧ s19 98 16 = σ2 98 16 ∧ s19 98 17 = σ2 98 17 ∧ s19 98 18 = σ2 98 18 ∧ s19 98 13 = 2 ∧ s19 98 14 = (σ2 98 16) ∧ s19 = h_up s17 98 14 (σ2 98 16)) => ?_))
    refine h_vret rfl rfl (h_Kn ?_)
    refine d_toL (g_inj ns) hlw10 hRw10 (fun lvw20 memw20 hlw20 hRw20 => ?_)
    show h_T g_P (g_Y ns) 56 180 [(0, .ref 63)] [] s9 _
    exact h_wk [(0, .ref 63)] ⟨rfl, trivial⟩ (kx0 _ _ Is9 Is19 Fs9 Fs19 (by omega) (by omega) (by omega) (by omega) (by omega) (fun h => absurd h (by omega)) (Or.inl ⟨by omega, by omega, by omega, by omega⟩) _ _ (h_al_ok ⟨rfl, trivial⟩ hlw20) hRw20)
  · show h_T g_P (g_Y ns) 56 150 [(0, .ref 63)] [] σ1 _
    refine h_aload_n (pc' := 151) rfl rfl rfl ?_
    refine h_getI (pc' := 154) (v := σ1 63 2) rfl rfl rfl rfl rfl rfl (fun z21 hz21 => ?_)
    have tz21 := tf_63_2 hI1
    refine h_zne (tg := 180) (pc' := 157) rfl rfl rfl hz21 (fun c22 => absurd c22 (by omega)) (fun c22 => ?_)
    clear hz21
    refine h_aload_n (pc' := 158) rfl rfl rfl ?_
    refine h_getR (pc' := 161) rfl rfl rfl rfl rfl ?_
    refine h_getI (pc' := 164) (v := σ1 64 3) rfl rfl rfl rfl rfl rfl (fun z23 hz23 => ?_)
    have tz23 := tf_64_3 hI1
    refine h_iconst (pc' := 165) (x := (Int32.ofInt 3)) rfl rfl rfl ?_
    refine h_ceq (tg := 180) (pc' := 168) rfl rfl rfl hz23 ci_3 (fun c24 => absurd c24 (by omega)) (fun c24 => ?_)
    clear hz23
    refine h_aload_n (pc' := 169) rfl rfl rfl ?_
    refine h_iconst (pc' := 170) (x := (Int32.ofInt 2)) rfl rfl rfl ?_
    refine h_aload_n (pc' := 171) rfl rfl rfl ?_
    refine h_getR (pc' := 174) rfl rfl rfl rfl rfl ?_
    refine h_getI (pc' := 177) (v := σ1 64 4) rfl rfl rfl rfl rfl rfl (fun z25 hz25 => ?_)
    have tz25 := tf_64_4 hI1
    refine h_call (sp := false) (pc' := 180) (M := [(0, .ref 63), (1, .int (Int32.ofInt 2)), (2, .int z25)]) rfl rfl rfl rfl rfl rfl rfl rfl ?_
    refine h_aload_n (pc' := 1) rfl rfl rfl ?_
    refine h_getI (pc' := 4) (v := σ1 63 2) rfl rfl rfl rfl rfl rfl (fun z26 hz26 => ?_)
    refine h_zne (tg := 17) (pc' := 7) rfl rfl rfl hz26 (fun c27 => absurd c27 (by omega)) (fun c27 => ?_)
    clear hz26
    refine h_aload_n (pc' := 8) rfl rfl rfl ?_
    refine h_iload_n (pc' := 9) rfl rfl rfl ?_
    refine h_put (pc' := 12) rfl rfl rfl rfl rfl rfl ci_2 rfl (h_fgt (E := fun s => s 64 2 = σ1 64 2 ∧ s 64 4 = σ1 64 4 ∧ s 64 3 = σ1 64 3 ∧ s 64 5 = σ1 64 5 ∧ s 63 2 = 2 ∧ s 63 3 = σ1 63 3 ∧ s 64 1 = σ1 64 1 ∧ s = h_up σ1 63 2 2) _ (if_63_2 hI1 (by omega)) (F1.up rfl) ⟨rfl, rfl, rfl, rfl, rfl, rfl, rfl, rfl⟩ (fun s28 Is28 Fs28 (es28 : s28 64 2 = σ1 64 2 ∧ s28 64 4 = σ1 64 4 ∧ s28 64 3 = σ1 64 3 ∧ s28 64 5 = σ1 64 5 ∧ s28 63 2 = 2 ∧ s28 63 3 = σ1 63 3 ∧ s28 64 1 = σ1 64 1 ∧ s28 = h_up σ1 63 2 2) => ?_))
    refine h_aload_n (pc' := 13) rfl rfl rfl ?_
    refine h_iload_n (pc' := 14) rfl rfl rfl ?_
    refine h_put (pc' := 17) rfl rfl rfl rfl rfl rfl hz25 rfl (h_fgt (E := fun s => s 64 2 = σ1 64 2 ∧ s 64 4 = σ1 64 4 ∧ s 64 3 = σ1 64 3 ∧ s 64 5 = σ1 64 5 ∧ s 63 2 = 2 ∧ s 63 3 = (σ1 64 4) ∧ s 64 1 = σ1 64 1 ∧ s = h_up s28 63 3 (σ1 64 4)) _ (if_63_3 Is28 (h_rgv hz25)) (Fs28.up rfl) ⟨es28.1, es28.2.1, es28.2.2.1, es28.2.2.2.1, es28.2.2.2.2.1, rfl, es28.2.2.2.2.2.2.1, rfl⟩ (fun s29 Is29 Fs29 (es29 : s29 64 2 = σ1 64 2 ∧ s29 64 4 = σ1 64 4 ∧ s29 64 3 = σ1 64 3 ∧ s29 64 5 = σ1 64 5 ∧ s29 63 2 = 2 ∧ s29 63 3 = (σ1 64 4) ∧ s29 64 1 = σ1 64 1 ∧ s29 = h_up s28 63 3 (σ1 64 4)) => ?_))
    refine h_vret rfl rfl (h_Kn ?_)
    refine d_toM (g_inj ns) hl2 hR2 (fun lvw30 memw30 hlw30 hRw30 => ?_)
    show h_T g_P (g_Y ns) 154 145 [(0, .ref 98)] [] σ2 _
    refine h_aload_n (pc' := 146) rfl rfl rfl ?_
    refine h_getI (pc' := 149) (v := σ2 98 13) rfl rfl rfl rfl rfl rfl (fun z31 hz31 => ?_)
    have tz31 := tf_98_13 hI2
    refine h_zne (tg := 165) (pc' := 152) rfl rfl rfl hz31 (fun c32 => absurd c32 (by omega)) (fun c32 => ?_)
    clear hz31
    refine h_aload_n (pc' := 153) rfl rfl rfl ?_
    refine h_getI (pc' := 156) (v := σ2 98 17) rfl rfl rfl rfl rfl rfl (fun z33 hz33 => ?_)
    have tz33 := tf_98_17 hI2
    refine h_iconst (pc' := 157) (x := (Int32.ofInt 3)) rfl rfl rfl ?_
    refine h_ceq (tg := 165) (pc' := 160) rfl rfl rfl hz33 ci_3 (fun c34 => absurd c34 (by omega)) (fun c34 => ?_)
    clear hz33
    refine h_aload_n (pc' := 161) rfl rfl rfl ?_
    refine h_iconst (pc' := 162) (x := (Int32.ofInt 2)) rfl rfl rfl ?_
    refine h_call (sp := false) (pc' := 165) (M := [(0, .ref 98), (1, .int (Int32.ofInt 2))]) rfl rfl rfl rfl rfl rfl rfl rfl ?_
    refine h_aload_n (pc' := 1) rfl rfl rfl ?_
    refine h_getI (pc' := 4) (v := σ2 98 13) rfl rfl rfl rfl rfl rfl (fun z35 hz35 => ?_)
    refine h_zne (tg := 20) (pc' := 7) rfl rfl rfl hz35 (fun c36 => absurd c36 (by omega)) (fun c36 => ?_)
    clear hz35
    refine h_aload_n (pc' := 8) rfl rfl rfl ?_
    refine h_iload_n (pc' := 9) rfl rfl rfl ?_
    refine h_put (pc' := 12) rfl rfl rfl rfl rfl rfl ci_2 rfl (h_fgt (E := fun s => s 98 15 = σ2 98 15 ∧ s 98 16 = σ2 98 16 ∧ s 98 17 = σ2 98 17 ∧ s 98 18 = σ2 98 18 ∧ s 98 13 = 2 ∧ s 98 14 = σ2 98 14 ∧ s = h_up σ2 98 13 2) _ (if_98_13 hI2 (by omega)) (F2.up rfl) ⟨rfl, rfl, rfl, rfl, rfl, rfl, rfl⟩ (fun s37 Is37 Fs37 (es37 : s37 98 15 = σ2 98 15 ∧ s37 98 16 = σ2 98 16 ∧ s37 98 17 = σ2 98 17 ∧ s37 98 18 = σ2 98 18 ∧ s37 98 13 = 2 ∧ s37 98 14 = σ2 98 14 ∧ s37 = h_up σ2 98 13 2) => ?_))
    refine h_aload_n (pc' := 13) rfl rfl rfl ?_
    refine h_aload_n (pc' := 14) rfl rfl rfl ?_
    refine h_getI (pc' := 17) (v := σ2 98 16) rfl rfl rfl rfl rfl es37.2.1 (fun z38 hz38 => ?_)
    have tz38 := tf_98_16 hI2
    refine h_put (pc' := 20) rfl rfl rfl rfl rfl rfl hz38 rfl (h_fgt (E := fun s => s 98 15 = σ2 98 15 ∧ s 98 16 = σ2 98 16 ∧ s 98 17 = σ2 98 17 ∧ s 98 18 = σ2 98 18 ∧ s 98 13 = 2 ∧ s 98 14 = (σ2 98 16) ∧ s = h_up s37 98 14 (σ2 98 16)) _ (if_98_14 Is37 (h_rgv hz38)) (Fs37.up rfl) ⟨es37.1, es37.2.1, es37.2.2.1, es37.2.2.2.1, es37.2.2.2.2.1, rfl, rfl⟩ (fun s39 Is39 Fs39 (es39 : s39 98 15 = σ2 98 15 ∧ s39 98 16 = σ2 98 16 ∧ s39 98 17 = σ2 98 17 ∧ s39 98 18 = σ2 98 18 ∧ s39 98 13 = 2 ∧ s39 98 14 = (σ2 98 16) ∧ s39 = h_up s37 98 14 (σ2 98 16)) => ?_))
    refine h_vret rfl rfl (h_Kn ?_)
    refine d_toL (g_inj ns) hlw30 hRw30 (fun lvw40 memw40 hlw40 hRw40 => ?_)
    show h_T g_P (g_Y ns) 56 180 [(0, .ref 63)] [] s29 _
    exact h_wk [(0, .ref 63)] ⟨rfl, trivial⟩ (kx0 _ _ Is29 Is39 Fs29 Fs39 (by omega) (by omega) (by omega) (by omega) (by omega) (fun h => absurd h (by omega)) (Or.inl ⟨by omega, by omega, by omega, by omega⟩) _ _ (h_al_ok ⟨rfl, trivial⟩ hlw40) hRw40)
  · show h_T g_P (g_Y ns) 56 150 [(0, .ref 63)] [] σ1 _
    refine h_aload_n (pc' := 151) rfl rfl rfl ?_
    refine h_getI (pc' := 154) (v := σ1 63 2) rfl rfl rfl rfl rfl rfl (fun z41 hz41 => ?_)
    have tz41 := tf_63_2 hI1
    refine h_zne (tg := 180) (pc' := 157) rfl rfl rfl hz41 (fun c42 => absurd c42 (by omega)) (fun c42 => ?_)
    clear hz41
    refine h_aload_n (pc' := 158) rfl rfl rfl ?_
    refine h_getR (pc' := 161) rfl rfl rfl rfl rfl ?_
    refine h_getI (pc' := 164) (v := σ1 64 3) rfl rfl rfl rfl rfl rfl (fun z43 hz43 => ?_)
    have tz43 := tf_64_3 hI1
    refine h_iconst (pc' := 165) (x := (Int32.ofInt 3)) rfl rfl rfl ?_
    refine h_ceq (tg := 180) (pc' := 168) rfl rfl rfl hz43 ci_3 (fun c44 => absurd c44 (by omega)) (fun c44 => ?_)
    clear hz43
    refine h_aload_n (pc' := 169) rfl rfl rfl ?_
    refine h_iconst (pc' := 170) (x := (Int32.ofInt 2)) rfl rfl rfl ?_
    refine h_aload_n (pc' := 171) rfl rfl rfl ?_
    refine h_getR (pc' := 174) rfl rfl rfl rfl rfl ?_
    refine h_getI (pc' := 177) (v := σ1 64 4) rfl rfl rfl rfl rfl rfl (fun z45 hz45 => ?_)
    have tz45 := tf_64_4 hI1
    refine h_call (sp := false) (pc' := 180) (M := [(0, .ref 63), (1, .int (Int32.ofInt 2)), (2, .int z45)]) rfl rfl rfl rfl rfl rfl rfl rfl ?_
    refine h_aload_n (pc' := 1) rfl rfl rfl ?_
    refine h_getI (pc' := 4) (v := σ1 63 2) rfl rfl rfl rfl rfl rfl (fun z46 hz46 => ?_)
    refine h_zne (tg := 17) (pc' := 7) rfl rfl rfl hz46 (fun c47 => absurd c47 (by omega)) (fun c47 => ?_)
    clear hz46
    refine h_aload_n (pc' := 8) rfl rfl rfl ?_
    refine h_iload_n (pc' := 9) rfl rfl rfl ?_
    refine h_put (pc' := 12) rfl rfl rfl rfl rfl rfl ci_2 rfl (h_fgt (E := fun s => s 64 2 = σ1 64 2 ∧ s 64 4 = σ1 64 4 ∧ s 64 3 = σ1 64 3 ∧ s 64 5 = σ1 64 5 ∧ s 63 2 = 2 ∧ s 63 3 = σ1 63 3 ∧ s 64 1 = σ1 64 1 ∧ s = h_up σ1 63 2 2) _ (if_63_2 hI1 (by omega)) (F1.up rfl) ⟨rfl, rfl, rfl, rfl, rfl, rfl, rfl, rfl⟩ (fun s48 Is48 Fs48 (es48 : s48 64 2 = σ1 64 2 ∧ s48 64 4 = σ1 64 4 ∧ s48 64 3 = σ1 64 3 ∧ s48 64 5 = σ1 64 5 ∧ s48 63 2 = 2 ∧ s48 63 3 = σ1 63 3 ∧ s48 64 1 = σ1 64 1 ∧ s48 = h_up σ1 63 2 2) => ?_))
    refine h_aload_n (pc' := 13) rfl rfl rfl ?_
    refine h_iload_n (pc' := 14) rfl rfl rfl ?_
    refine h_put (pc' := 17) rfl rfl rfl rfl rfl rfl hz45 rfl (h_fgt (E := fun s => s 64 2 = σ1 64 2 ∧ s 64 4 = σ1 64 4 ∧ s 64 3 = σ1 64 3 ∧ s 64 5 = σ1 64 5 ∧ s 63 2 = 2 ∧ s 63 3 = (σ1 64 4) ∧ s 64 1 = σ1 64 1 ∧ s = h_up s48 63 3 (σ1 64 4)) _ (if_63_3 Is48 (h_rgv hz45)) (Fs48.up rfl) ⟨es48.1, es48.2.1, es48.2.2.1, es48.2.2.2.1, es48.2.2.2.2.1, rfl, es48.2.2.2.2.2.2.1, rfl⟩ (fun s49 Is49 Fs49 (es49 : s49 64 2 = σ1 64 2 ∧ s49 64 4 = σ1 64 4 ∧ s49 64 3 = σ1 64 3 ∧ s49 64 5 = σ1 64 5 ∧ s49 63 2 = 2 ∧ s49 63 3 = (σ1 64 4) ∧ s49 64 1 = σ1 64 1 ∧ s49 = h_up s48 63 3 (σ1 64 4)) => ?_))
    refine h_vret rfl rfl (h_Kn ?_)
    refine d_toM (g_inj ns) hl2 hR2 (fun lvw50 memw50 hlw50 hRw50 => ?_)
    show h_T g_P (g_Y ns) 154 145 [(0, .ref 98)] [] σ2 _
    refine h_aload_n (pc' := 146) rfl rfl rfl ?_
    refine h_getI (pc' := 149) (v := σ2 98 13) rfl rfl rfl rfl rfl rfl (fun z51 hz51 => ?_)
    have tz51 := tf_98_13 hI2
    refine h_zne (tg := 165) (pc' := 152) rfl rfl rfl hz51 (fun c52 => absurd c52 (by omega)) (fun c52 => ?_)
    clear hz51
    refine h_aload_n (pc' := 153) rfl rfl rfl ?_
    refine h_getI (pc' := 156) (v := σ2 98 17) rfl rfl rfl rfl rfl rfl (fun z53 hz53 => ?_)
    have tz53 := tf_98_17 hI2
    refine h_iconst (pc' := 157) (x := (Int32.ofInt 3)) rfl rfl rfl ?_
    refine h_ceq (tg := 165) (pc' := 160) rfl rfl rfl hz53 ci_3 (fun c54 => absurd c54 (by omega)) (fun c54 => ?_)
    clear hz53
    refine h_aload_n (pc' := 161) rfl rfl rfl ?_
    refine h_iconst (pc' := 162) (x := (Int32.ofInt 2)) rfl rfl rfl ?_
    refine h_call (sp := false) (pc' := 165) (M := [(0, .ref 98), (1, .int (Int32.ofInt 2))]) rfl rfl rfl rfl rfl rfl rfl rfl ?_
    refine h_aload_n (pc' := 1) rfl rfl rfl ?_
    refine h_getI (pc' := 4) (v := σ2 98 13) rfl rfl rfl rfl rfl rfl (fun z55 hz55 => ?_)
    refine h_zne (tg := 20) (pc' := 7) rfl rfl rfl hz55 (fun c56 => absurd c56 (by omega)) (fun c56 => ?_)
    clear hz55
    refine h_aload_n (pc' := 8) rfl rfl rfl ?_
    refine h_iload_n (pc' := 9) rfl rfl rfl ?_
    refine h_put (pc' := 12) rfl rfl rfl rfl rfl rfl ci_2 rfl (h_fgt (E := fun s => s 98 15 = σ2 98 15 ∧ s 98 16 = σ2 98 16 ∧ s 98 17 = σ2 98 17 ∧ s 98 18 = σ2 98 18 ∧ s 98 13 = 2 ∧ s 98 14 = σ2 98 14 ∧ s = h_up σ2 98 13 2) _ (if_98_13 hI2 (by omega)) (F2.up rfl) ⟨rfl, rfl, rfl, rfl, rfl, rfl, rfl⟩ (fun s57 Is57 Fs57 (es57 : s57 98 15 = σ2 98 15 ∧ s57 98 16 = σ2 98 16 ∧ s57 98 17 = σ2 98 17 ∧ s57 98 18 = σ2 98 18 ∧ s57 98 13 = 2 ∧ s57 98 14 = σ2 98 14 ∧ s57 = h_up σ2 98 13 2) => ?_))
    refine h_aload_n (pc' := 13) rfl rfl rfl ?_
    refine h_aload_n (pc' := 14) rfl rfl rfl ?_
    refine h_getI (pc' := 17) (v := σ2 98 16) rfl rfl rfl rfl rfl es57.2.1 (fun z58 hz58 => ?_)
    have tz58 := tf_98_16 hI2
    refine h_put (pc' := 20) rfl rfl rfl rfl rfl rfl hz58 rfl (h_fgt (E := fun s => s 98 15 = σ2 98 15 ∧ s 98 16 = σ2 98 16 ∧ s 98 17 = σ2 98 17 ∧ s 98 18 = σ2 98 18 ∧ s 98 13 = 2 ∧ s 98 14 = (σ2 98 16) ∧ s = h_up s57 98 14 (σ2 98 16)) _ (if_98_14 Is57 (h_rgv hz58)) (Fs57.up rfl) ⟨es57.1, es57.2.1, es57.2.2.1, es57.2.2.2.1, es57.2.2.2.2.1, rfl, rfl⟩ (fun s59 Is59 Fs59 (es59 : s59 98 15 = σ2 98 15 ∧ s59 98 16 = σ2 98 16 ∧ s59 98 17 = σ2 98 17 ∧ s59 98 18 = σ2 98 18 ∧ s59 98 13 = 2 ∧ s59 98 14 = (σ2 98 16) ∧ s59 = h_up s57 98 14 (σ2 98 16)) => ?_))
    refine h_vret rfl rfl (h_Kn ?_)
    refine d_toL (g_inj ns) hlw50 hRw50 (fun lvw60 memw60 hlw60 hRw60 => ?_)
    show h_T g_P (g_Y ns) 56 180 [(0, .ref 63)] [] s49 _
    exact h_wk [(0, .ref 63)] ⟨rfl, trivial⟩ (kx0 _ _ Is49 Is59 Fs49 Fs59 (by omega) (by omega) (by omega) (by omega) (by omega) (fun h => absurd h (by omega)) (Or.inl ⟨by omega, by omega, by omega, by omega⟩) _ _ (h_al_ok ⟨rfl, trivial⟩ hlw60) hRw60)
  · show h_T g_P (g_Y ns) 56 150 [(0, .ref 63)] [] σ1 _
    refine h_aload_n (pc' := 151) rfl rfl rfl ?_
    refine h_getI (pc' := 154) (v := σ1 63 2) rfl rfl rfl rfl rfl rfl (fun z61 hz61 => ?_)
    have tz61 := tf_63_2 hI1
    refine h_zne (tg := 180) (pc' := 157) rfl rfl rfl hz61 (fun c62 => absurd c62 (by omega)) (fun c62 => ?_)
    clear hz61
    refine h_aload_n (pc' := 158) rfl rfl rfl ?_
    refine h_getR (pc' := 161) rfl rfl rfl rfl rfl ?_
    refine h_getI (pc' := 164) (v := σ1 64 3) rfl rfl rfl rfl rfl rfl (fun z63 hz63 => ?_)
    have tz63 := tf_64_3 hI1
    refine h_iconst (pc' := 165) (x := (Int32.ofInt 3)) rfl rfl rfl ?_
    refine h_ceq (tg := 180) (pc' := 168) rfl rfl rfl hz63 ci_3 (fun c64 => ?_) (fun c64 => absurd c64 (by omega))
    clear hz63
    refine d_toM (g_inj ns) hl2 hR2 (fun lvw65 memw65 hlw65 hRw65 => ?_)
    show h_T g_P (g_Y ns) 154 145 [(0, .ref 98)] [] σ2 _
    refine h_aload_n (pc' := 146) rfl rfl rfl ?_
    refine h_getI (pc' := 149) (v := σ2 98 13) rfl rfl rfl rfl rfl rfl (fun z66 hz66 => ?_)
    have tz66 := tf_98_13 hI2
    refine h_zne (tg := 165) (pc' := 152) rfl rfl rfl hz66 (fun c67 => absurd c67 (by omega)) (fun c67 => ?_)
    clear hz66
    refine h_aload_n (pc' := 153) rfl rfl rfl ?_
    refine h_getI (pc' := 156) (v := σ2 98 17) rfl rfl rfl rfl rfl rfl (fun z68 hz68 => ?_)
    have tz68 := tf_98_17 hI2
    refine h_iconst (pc' := 157) (x := (Int32.ofInt 3)) rfl rfl rfl ?_
    refine h_ceq (tg := 165) (pc' := 160) rfl rfl rfl hz68 ci_3 (fun c69 => ?_) (fun c69 => absurd c69 (by omega))
    clear hz68
    refine d_toL (g_inj ns) hlw65 hRw65 (fun lvw70 memw70 hlw70 hRw70 => ?_)
    show h_T g_P (g_Y ns) 56 180 [(0, .ref 63)] [] σ1 _
    exact h_wk [(0, .ref 63)] ⟨rfl, trivial⟩ (kx0 _ _ hI1 hI2 F1 F2 (by omega) (by omega) (by omega) (by omega) (by omega) (fun _ => d_mk (rfl) (rfl) (rfl) (rfl) (rfl) (rfl) (fun j => rfl) (fun j => rfl) (fun j => rfl) (fun j => rfl) (fun j => rfl) (fun j => rfl) (fun j => rfl) (fun j => rfl) (fun j => rfl) (fun j => rfl) (rfl) (rfl) (rfl) (rfl) (rfl) (fun j => rfl) (pr4 (by omega))) (Or.inr ⟨by omega, by omega, by omega, by omega, by omega⟩) _ _ (h_al_ok ⟨rfl, trivial⟩ hlw70) hRw70)
