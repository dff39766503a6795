set_option maxHeartbeats 100000000 in
theorem ls_sc {ns : Nat} {σ1 σ2 : h_S} (hI1 : h_I σ1) (hI2 : h_I σ2) (hTL : d_tape σ1 σ2)  (pr0 : σ1 64 2 = σ2 98 15) (pr1 : σ1 64 4 = σ2 98 16) (pr2 : σ1 63 2 = σ2 98 13) (pr3 : σ1 64 2 ≤ σ1 64 1) (pr4 : d_ok σ1 σ2) (pc0 : ((σ1 63 2 = 0) ∧ (σ1 64 3 = 0) ∧ (σ2 98 13 = 0) ∧ (σ2 98 17 = 0) ∧ (σ1 64 4 = σ1 64 1)) ∨ ((σ1 63 2 = 0) ∧ (σ1 64 3 = 1) ∧ (σ2 98 13 = 0) ∧ (σ2 98 17 = 1) ∧ (σ1 64 4 < σ1 64 2)) ∨ ((σ1 63 2 = 0) ∧ (σ1 64 3 = 2) ∧ (σ2 98 13 = 0) ∧ (σ2 98 17 = 2) ∧ (0 ≤ σ1 64 5 ∧ σ1 64 5 ≤ 99) ∧ (0 ≤ σ2 98 18 ∧ σ2 98 18 ≤ 99) ∧ (σ1 64 5 = σ2 98 18) ∧ (σ1 64 4 < σ1 64 2)) ∨ ((σ1 63 2 = 0) ∧ (σ1 64 3 = 3) ∧ (σ2 98 13 = 0) ∧ (σ2 98 17 = 3) ∧ (σ1 64 4 < σ1 64 2))) {cs1 cs2 : List d_Fr} {Q : d_Q} (kx0 : ∀ (s t : h_S), h_I s → h_I t → h_F (k_in k_pl) s σ1 → h_F (k_in k_pm) t σ2 → (s 64 2 = t 98 15) → (s 64 4 = t 98 16) → (s 63 2 = t 98 13) → (s 64 2 ≤ s 64 1) → (σ1 64 2 ≤ s 64 2) → (d_ok s t) → (((1 ≤ s 63 2 ∧ s 63 2 ≤ 6) ∧ (1 ≤ t 98 13 ∧ t 98 13 ≤ 6) ∧ (s 63 2 = t 98 13) ∧ (s 63 3 = t 98 14)) ∨ ((s 63 2 = 0) ∧ (s 64 3 = 3) ∧ (t 98 13 = 0) ∧ (t 98 17 = 3) ∧ (s 64 4 < s 64 2) ∧ (σ1 64 3 = 3) ∧ (s 64 2 = σ1 64 2))) → ∀ lv2 mem2, h_loc [(0, .ref 98)] lv2 → h_R (g_Y ns) t mem2 → h_T g_P (g_Y ns) 56 180 [(0, .ref 63)] [] s (d_cs g_P (g_Y ns) cs1 (d_L g_P (g_Y ns) (154, 165, lv2, []) cs2 mem2 Q))) : ∀ lv2 mem2, h_loc [(0, .ref 98)] lv2 → h_R (g_Y ns) σ2 mem2 → h_T g_P (g_Y ns) 56 150 [(0, .ref 63)] [] σ1 (d_cs g_P (g_Y ns) cs1 (d_L g_P (g_Y ns) (154, 145, lv2, []) cs2 mem2 Q)) := by
  intro lv2 mem2 hl2 hR2
  have hT := hTL.1
  have hL := hTL.2
  have F1 : h_F (k_in k_pl) σ1 σ1 := h_F.rf
  have F2 : h_F (k_in k_pm) σ2 σ2 := h_F.rf
  have ge0 := tf_64_1 hI1
  rcases pc0 with pc0 | pc0 | pc0 | pc0
  · show h_T g_P (g_Y ns) 56 150 [(0, .ref 63)] [] σ1 _
    refine h_aload_n (pc' := 151) rfl rfl rfl ?_
    refine h_getI (pc' := 154) (v := σ1 63 2) rfl rfl rfl rfl rfl rfl (fun z21 hz21 => ?_)
    have tz21 := tf_63_2 hI1
    refine h_zne (tg := 180) (pc' := 157) rfl rfl rfl hz21 (fun c22 => absurd (Int.le_antisymm (by omega) (by omega)) c22) (fun c22 => ?_)
    clear hz21
    refine h_aload_n (pc' := 158) rfl rfl rfl ?_
    refine h_getR (pc' := 161) rfl rfl rfl rfl rfl ?_
    refine h_getI (pc' := 164) (v := σ1 64 3) rfl rfl rfl rfl rfl rfl (fun z23 hz23 => ?_)
    have tz23 := tf_64_3 hI1
    refine h_iconst (pc' := 165) (x := (Int32.ofInt 3)) rfl rfl rfl ?_
    refine h_ceq (tg := 180) (pc' := 168) rfl rfl rfl hz23 ci_3 (fun c24 => absurd c24 (by omega)) (fun c24 => ?_)
    clear hz23
    refine h_aload_n (pc' := 169) rfl rfl rfl ?_
    refine h_iconst (pc' := 170) (x := (Int32.ofInt 2)) rfl rfl rfl ?_
    refine h_aload_n (pc' := 171) rfl rfl rfl ?_
    refine h_getR (pc' := 174) rfl rfl rfl rfl rfl ?_
    refine h_getI (pc' := 177) (v := σ1 64 4) rfl rfl rfl rfl rfl rfl (fun z25 hz25 => ?_)
    have tz25 := tf_64_4 hI1
    refine h_call (sp := false) (pc' := 180) (M := [(0, .ref 63), (1, .int (Int32.ofInt 2)), (2, .int z25)]) rfl rfl rfl rfl rfl rfl rfl rfl ?_
    refine h_aload_n (pc' := 1) rfl rfl rfl ?_
    refine h_getI (pc' := 4) (v := σ1 63 2) rfl rfl rfl rfl rfl rfl (fun z26 hz26 => ?_)
    refine h_zne (tg := 17) (pc' := 7) rfl rfl rfl hz26 (fun c27 => absurd (Int.le_antisymm (by omega) (by omega)) c27) (fun c27 => ?_)
    clear hz26
    refine h_aload_n (pc' := 8) rfl rfl rfl ?_
    refine h_iload_n (pc' := 9) rfl rfl rfl ?_
    refine h_put (pc' := 12) rfl rfl rfl rfl rfl rfl ci_2 rfl (h_fgt (E := fun s => s 64 2 = σ1 64 2 ∧ s 64 4 = σ1 64 4 ∧ s 64 3 = σ1 64 3 ∧ s 64 5 = σ1 64 5 ∧ s 63 2 = 2 ∧ s 63 3 = σ1 63 3 ∧ s 64 1 = σ1 64 1 ∧ s = h_up σ1 63 2 2) _ (if_63_2 hI1 (by omega)) (F1.up rfl) ⟨rfl, rfl, rfl, rfl, rfl, rfl, rfl, rfl⟩ (fun s28 Is28 Fs28 (es28 : s28 64 2 = σ1 64 2 ∧ s28 64 4 = σ1 64 4 ∧ s28 64 3 = σ1 64 3 ∧ s28 64 5 = σ1 64 5 ∧ s28 63 2 = 2 ∧ s28 63 3 = σ1 63 3 ∧ s28 64 1 = σ1 64 1 ∧ s28 = h_up σ1 63 2 2) => ?_))
    have us28 := es28.2.2.2.2.2.2.2
    refine h_aload_n (pc' := 13) rfl rfl rfl ?_
    refine h_iload_n (pc' := 14) rfl rfl rfl ?_
    refine h_put (pc' := 17) rfl rfl rfl rfl rfl rfl hz25 rfl (h_fgt (E := fun s => s 64 2 = σ1 64 2 ∧ s 64 4 = σ1 64 4 ∧ s 64 3 = σ1 64 3 ∧ s 64 5 = σ1 64 5 ∧ s 63 2 = 2 ∧ s 63 3 = (σ1 64 4) ∧ s 64 1 = σ1 64 1 ∧ s = h_up s28 63 3 (σ1 64 4)) _ (if_63_3 Is28 (h_rgv hz25)) (Fs28.up rfl) ⟨es28.1, es28.2.1, es28.2.2.1, es28.2.2.2.1, es28.2.2.2.2.1, rfl, es28.2.2.2.2.2.2.1, rfl⟩ (fun s29 Is29 Fs29 (es29 : s29 64 2 = σ1 64 2 ∧ s29 64 4 = σ1 64 4 ∧ s29 64 3 = σ1 64 3 ∧ s29 64 5 = σ1 64 5 ∧ s29 63 2 = 2 ∧ s29 63 3 = (σ1 64 4) ∧ s29 64 1 = σ1 64 1 ∧ s29 = h_up s28 63 3 (σ1 64 4)) => ?_))
    clear es28
    have us29 := es29.2.2.2.2.2.2.2
    refine h_vret rfl rfl (h_Kn ?_)
    refine d_toM (g_inj ns) hl2 hR2 (fun lvw30 memw30 hlw30 hRw30 => ?_)
    show h_T g_P (g_Y ns) 154 145 [(0, .ref 98)] [] σ2 _
    refine h_aload_n (pc' := 146) rfl rfl rfl ?_
    refine h_getI (pc' := 149) (v := σ2 98 13) rfl rfl rfl rfl rfl rfl (fun z31 hz31 => ?_)
    have tz31 := tf_98_13 hI2
    refine h_zne (tg := 165) (pc' := 152) rfl rfl rfl hz31 (fun c32 => absurd (Int.le_antisymm (by omega) (by omega)) c32) (fun c32 => ?_)
    clear hz31
    refine h_aload_n (pc' := 153) rfl rfl rfl ?_
    refine h_getI (pc' := 156) (v := σ2 98 17) rfl rfl rfl rfl rfl rfl (fun z33 hz33 => ?_)
    have tz33 := tf_98_17 hI2
    refine h_iconst (pc' := 157) (x := (Int32.ofInt 3)) rfl rfl rfl ?_
    refine h_ceq (tg := 165) (pc' := 160) rfl rfl rfl hz33 ci_3 (fun c34 => absurd c34 (by omega)) (fun c34 => ?_)
    clear hz33
    refine h_aload_n (pc' := 161) rfl rfl rfl ?_
    refine h_iconst (pc' := 162) (x := (Int32.ofInt 2)) rfl rfl rfl ?_
    refine h_call (sp := false) (pc' := 165) (M := [(0, .ref 98), (1, .int (Int32.ofInt 2))]) rfl rfl rfl rfl rfl rfl rfl rfl ?_
    refine h_aload_n (pc' := 1) rfl rfl rfl ?_
    refine h_getI (pc' := 4) (v := σ2 98 13) rfl rfl rfl rfl rfl rfl (fun z35 hz35 => ?_)
    refine h_zne (tg := 20) (pc' := 7) rfl rfl rfl hz35 (fun c36 => absurd (Int.le_antisymm (by omega) (by omega)) c36) (fun c36 => ?_)
    clear hz35
    refine h_aload_n (pc' := 8) rfl rfl rfl ?_
    refine h_iload_n (pc' := 9) rfl rfl rfl ?_
    refine h_put (pc' := 12) rfl rfl rfl rfl rfl rfl ci_2 rfl (h_fgt (E := fun s => s 98 15 = σ2 98 15 ∧ s 98 16 = σ2 98 16 ∧ s 98 17 = σ2 98 17 ∧ s 98 18 = σ2 98 18 ∧ s 98 13 = 2 ∧ s 98 14 = σ2 98 14 ∧ s = h_up σ2 98 13 2) _ (if_98_13 hI2 (by omega)) (F2.up rfl) ⟨rfl, rfl, rfl, rfl, rfl, rfl, rfl⟩ (fun s37 Is37 Fs37 (es37 : s37 98 15 = σ2 98 15 ∧ s37 98 16 = σ2 98 16 ∧ s37 98 17 = σ2 98 17 ∧ s37 98 18 = σ2 98 18 ∧ s37 98 13 = 2 ∧ s37 98 14 = σ2 98 14 ∧ s37 = h_up σ2 98 13 2) => ?_))
    have us37 := es37.2.2.2.2.2.2
    refine h_aload_n (pc' := 13) rfl rfl rfl ?_
    refine h_aload_n (pc' := 14) rfl rfl rfl ?_
    refine h_getI (pc' := 17) (v := σ2 98 16) rfl rfl rfl rfl rfl es37.2.1 (fun z38 hz38 => ?_)
    have tz38 := tf_98_16 hI2
    refine h_put (pc' := 20) rfl rfl rfl rfl rfl rfl hz38 rfl (h_fgt (E := fun s => s 98 15 = σ2 98 15 ∧ s 98 16 = σ2 98 16 ∧ s 98 17 = σ2 98 17 ∧ s 98 18 = σ2 98 18 ∧ s 98 13 = 2 ∧ s 98 14 = (σ2 98 16) ∧ s = h_up s37 98 14 (σ2 98 16)) _ (if_98_14 Is37 (h_rgv hz38)) (Fs37.up rfl) ⟨es37.1, es37.2.1, es37.2.2.1, es37.2.2.2.1, es37.2.2.2.2.1, rfl, rfl⟩ (fun s39 Is39 Fs39 (es39 : s39 98 15 = σ2 98 15 ∧ s39 98 16 = σ2 98 16 ∧ s39 98 17 = σ2 98 17 ∧ s39 98 18 = σ2 98 18 ∧ s39 98 13 = 2 ∧ s39 98 14 = (σ2 98 16) ∧ s39 = h_up s37 98 14 (σ2 98 16)) => ?_))
    clear es37
    have us39 := es39.2.2.2.2.2.2
    refine h_vret rfl rfl (h_Kn ?_)
    refine d_toL (g_inj ns) hlw30 hRw30 (fun lvw40 memw40 hlw40 hRw40 => ?_)
    show h_T g_P (g_Y ns) 56 180 [(0, .ref 63)] [] s29 _
    exact h_wk [(0, .ref 63)] ⟨rfl, trivial⟩ (kx0 _ _ Is29 Is39 Fs29 Fs39 (Int.le_antisymm (by omega) (by omega)) (Int.le_antisymm (by omega) (by omega)) (Int.le_antisymm (by omega) (by omega)) (by omega) (by omega) (fun h => absurd h (by omega)) (Or.inl ⟨⟨by omega, by omega⟩, ⟨by omega, by omega⟩, Int.le_antisymm (by omega) (by omega), Int.le_antisymm (by omega) (by omega)⟩) _ _ (h_al_ok ⟨rfl, trivial⟩ hlw40) hRw40)
  · show h_T g_P (g_Y ns) 56 150 [(0, .ref 63)] [] σ1 _
    refine h_aload_n (pc' := 151) rfl rfl rfl ?_
    refine h_getI (pc' := 154) (v := σ1 63 2) rfl rfl rfl rfl rfl rfl (fun z41 hz41 => ?_)
    have tz41 := tf_63_2 hI1
    refine h_zne (tg := 180) (pc' := 157) rfl rfl rfl hz41 (fun c42 => absurd (Int.le_antisymm (by omega) (by omega)) c42) (fun c42 => ?_)
    clear hz41
    refine h_aload_n (pc' := 158) rfl rfl rfl ?_
    refine h_getR (pc' := 161) rfl rfl rfl rfl rfl ?_
    refine h_getI (pc' := 164) (v := σ1 64 3) rfl rfl rfl rfl rfl rfl (fun z43 hz43 => ?_)
    have tz43 := tf_64_3 hI1
    refine h_iconst (pc' := 165) (x := (Int32.ofInt 3)) rfl rfl rfl ?_
    refine h_ceq (tg := 180) (pc' := 168) rfl rfl rfl hz43 ci_3 (fun c44 => absurd c44 (by omega)) (fun c44 => ?_)
    clear hz43
    refine h_aload_n (pc' := 169) rfl rfl rfl ?_
    refine h_iconst (pc' := 170) (x := (Int32.ofInt 2)) rfl rfl rfl ?_
    refine h_aload_n (pc' := 171) rfl rfl rfl ?_
    refine h_getR (pc' := 174) rfl rfl rfl rfl rfl ?_
    refine h_getI (pc' := 177) (v := σ1 64 4) rfl rfl rfl rfl rfl rfl (fun z45 hz45 => ?_)
    have tz45 := tf_64_4 hI1
    refine h_call (sp := false) (pc' := 180) (M := [(0, .ref 63), (1, .int (Int32.ofInt 2)), (2, .int z45)]) rfl rfl rfl rfl rfl rfl rfl rfl ?_
    refine h_aload_n (pc' := 1) rfl rfl rfl ?_
    refine h_getI (pc' := 4) (v := σ1 63 2) rfl rfl rfl rfl rfl rfl (fun z46 hz46 => ?_)
    refine h_zne (tg := 17) (pc' := 7) rfl rfl rfl hz46 (fun c47 => absurd (Int.le_antisymm (by omega) (by omega)) c47) (fun c47 => ?_)
    clear hz46
    refine h_aload_n (pc' := 8) rfl rfl rfl ?_
    refine h_iload_n (pc' := 9) rfl rfl rfl ?_
    refine h_put (pc' := 12) rfl rfl rfl rfl rfl rfl ci_2 rfl (h_fgt (E := fun s => s 64 2 = σ1 64 2 ∧ s 64 4 = σ1 64 4 ∧ s 64 3 = σ1 64 3 ∧ s 64 5 = σ1 64 5 ∧ s 63 2 = 2 ∧ s 63 3 = σ1 63 3 ∧ s 64 1 = σ1 64 1 ∧ s = h_up σ1 63 2 2) _ (if_63_2 hI1 (by omega)) (F1.up rfl) ⟨rfl, rfl, rfl, rfl, rfl, rfl, rfl, rfl⟩ (fun s48 Is48 Fs48 (es48 : s48 64 2 = σ1 64 2 ∧ s48 64 4 = σ1 64 4 ∧ s48 64 3 = σ1 64 3 ∧ s48 64 5 = σ1 64 5 ∧ s48 63 2 = 2 ∧ s48 63 3 = σ1 63 3 ∧ s48 64 1 = σ1 64 1 ∧ s48 = h_up σ1 63 2 2) => ?_))
    have us48 := es48.2.2.2.2.2.2.2
    refine h_aload_n (pc' := 13) rfl rfl rfl ?_
    refine h_iload_n (pc' := 14) rfl rfl rfl ?_
    refine h_put (pc' := 17) rfl rfl rfl rfl rfl rfl hz45 rfl (h_fgt (E := fun s => s 64 2 = σ1 64 2 ∧ s 64 4 = σ1 64 4 ∧ s 64 3 = σ1 64 3 ∧ s 64 5 = σ1 64 5 ∧ s 63 2 = 2 ∧ s 63 3 = (σ1 64 4) ∧ s 64 1 = σ1 64 1 ∧ s = h_up s48 63 3 (σ1 64 4)) _ (if_63_3 Is48 (h_rgv hz45)) (Fs48.up rfl) ⟨es48.1, es48.2.1, es48.2.2.1, es48.2.2.2.1, es48.2.2.2.2.1, rfl, es48.2.2.2.2.2.2.1, rfl⟩ (fun s49 Is49 Fs49 (es49 : s49 64 2 = σ1 64 2 ∧ s49 64 4 = σ1 64 4 ∧ s49 64 3 = σ1 64 3 ∧ s49 64 5 = σ1 64 5 ∧ s49 63 2 = 2 ∧ s49 63 3 = (σ1 64 4) ∧ s49 64 1 = σ1 64 1 ∧ s49 = h_up s48 63 3 (σ1 64 4)) => ?_))
    clear es48
    have us49 := es49.2.2.2.2.2.2.2
    refine h_vret rfl rfl (h_Kn ?_)
    refine d_toM (g_inj ns) hl2 hR2 (fun lvw50 memw50 hlw50 hRw50 => ?_)
    show h_T g_P (g_Y ns) 154 145 [(0, .ref 98)] [] σ2 _
    refine h_aload_n (pc' := 146) rfl rfl rfl ?_
    refine h_getI (pc' := 149) (v := σ2 98 13) rfl rfl rfl rfl rfl rfl (fun z51 hz51 => ?_)
    have tz51 := tf_98_13 hI2
    refine h_zne (tg := 165) (pc' := 152) rfl rfl rfl hz51 (fun c52 => absurd (Int.le_antisymm (by omega) (by omega)) c52) (fun c52 => ?_)
    clear hz51
    refine h_aload_n (pc' := 153) rfl rfl rfl ?_
    refine h_getI (pc' := 156) (v := σ2 98 17) rfl rfl rfl rfl rfl rfl (fun z53 hz53 => ?_)
    have tz53 := tf_98_17 hI2
    refine h_iconst (pc' := 157) (x := (Int32.ofInt 3)) rfl rfl rfl ?_
    refine h_ceq (tg := 165) (pc' := 160) rfl rfl rfl hz53 ci_3 (fun c54 => absurd c54 (by omega)) (fun c54 => ?_)
    clear hz53
    refine h_aload_n (pc' := 161) rfl rfl rfl ?_
    refine h_iconst (pc' := 162) (x := (Int32.ofInt 2)) rfl rfl rfl ?_
    refine h_call (sp := false) (pc' := 165) (M := [(0, .ref 98), (1, .int (Int32.ofInt 2))]) rfl rfl rfl rfl rfl rfl rfl rfl ?_
    refine h_aload_n (pc' := 1) rfl rfl rfl ?_
    refine h_getI (pc' := 4) (v := σ2 98 13) rfl rfl rfl rfl rfl rfl (fun z55 hz55 => ?_)
    refine h_zne (tg := 20) (pc' := 7) rfl rfl rfl hz55 (fun c56 => absurd (Int.le_antisymm (by omega) (by omega)) c56) (fun c56 => ?_)
    clear hz55
    refine h_aload_n (pc' := 8) rfl rfl rfl ?_
    refine h_iload_n (pc' := 9) rfl rfl rfl ?_
    refine h_put (pc' := 12) rfl rfl rfl rfl rfl rfl ci_2 rfl (h_fgt (E := fun s => s 98 15 = σ2 98 15 ∧ s 98 16 = σ2 98 16 ∧ s 98 17 = σ2 98 17 ∧ s 98 18 = σ2 98 18 ∧ s 98 13 = 2 ∧ s 98 14 = σ2 98 14 ∧ s = h_up σ2 98 13 2) _ (if_98_13 hI2 (by omega)) (F2.up rfl) ⟨rfl, rfl, rfl, rfl, rfl, rfl, rfl⟩ (fun s57 Is57 Fs57 (es57 : s57 98 15 = σ2 98 15 ∧ s57 98 16 = σ2 98 16 ∧ s57 98 17 = σ2 98 17 ∧ s57 98 18 = σ2 98 18 ∧ s57 98 13 = 2 ∧ s57 98 14 = σ2 98 14 ∧ s57 = h_up σ2 98 13 2) => ?_))
    have us57 := es57.2.2.2.2.2.2
    refine h_aload_n (pc' := 13) rfl rfl rfl ?_
    refine h_aload_n (pc' := 14) rfl rfl rfl ?_
    refine h_getI (pc' := 17) (v := σ2 98 16) rfl rfl rfl rfl rfl es57.2.1 (fun z58 hz58 => ?_)
    have tz58 := tf_98_16 hI2
    refine h_put (pc' := 20) rfl rfl rfl rfl rfl rfl hz58 rfl (h_fgt (E := fun s => s 98 15 = σ2 98 15 ∧ s 98 16 = σ2 98 16 ∧ s 98 17 = σ2 98 17 ∧ s 98 18 = σ2 98 18 ∧ s 98 13 = 2 ∧ s 98 14 = (σ2 98 16) ∧ s = h_up s57 98 14 (σ2 98 16)) _ (if_98_14 Is57 (h_rgv hz58)) (Fs57.up rfl) ⟨es57.1, es57.2.1, es57.2.2.1, es57.2.2.2.1, es57.2.2.2.2.1, rfl, rfl⟩ (fun s59 Is59 Fs59 (es59 : s59 98 15 = σ2 98 15 ∧ s59 98 16 = σ2 98 16 ∧ s59 98 17 = σ2 98 17 ∧ s59 98 18 = σ2 98 18 ∧ s59 98 13 = 2 ∧ s59 98 14 = (σ2 98 16) ∧ s59 = h_up s57 98 14 (σ2 98 16)) => ?_))
    clear es57
    have us59 := es59.2.2.2.2.2.2
    refine h_vret rfl rfl (h_Kn ?_)
    refine d_toL (g_inj ns) hlw50 hRw50 (fun lvw60 memw60 hlw60 hRw60 => ?_)
    show h_T g_P (g_Y ns) 56 180 [(0, .ref 63)] [] s49 _
    exact h_wk [(0, .ref 63)] ⟨rfl, trivial⟩ (kx0 _ _ Is49 Is59 Fs49 Fs59 (Int.le_antisymm (by omega) (by omega)) (Int.le_antisymm (by omega) (by omega)) (Int.le_antisymm (by omega) (by omega)) (by omega) (by omega) (fun h => absurd h (by omega)) (Or.inl ⟨⟨by omega, by omega⟩, ⟨by omega, by omega⟩, Int.le_antisymm (by omega) (by omega), Int.le_antisymm (by omega) (by omega)⟩) _ _ (h_al_ok ⟨rfl, trivial⟩ hlw60) hRw60)
  · show h_T g_P (g_Y ns) 56 150 [(0, .ref 63)] [] σ1 _
    refine h_aload_n (pc' := 151) rfl rfl rfl ?_
    refine h_getI (pc' := 154) (v := σ1 63 2) rfl rfl rfl rfl rfl rfl (fun z61 hz61 => ?_)
    have tz61 := tf_63_2 hI1
    refine h_zne (tg := 180) (pc' := 157) rfl rfl rfl hz61 (fun c62 => absurd (Int.le_antisymm (by omega) (by omega)) c62) (fun c62 => ?_)
    clear hz61
    refine h_aload_n (pc' := 158) rfl rfl rfl ?_
    refine h_getR (pc' := 161) rfl rfl rfl rfl rfl ?_
    refine h_getI (pc' := 164) (v := σ1 64 3) rfl rfl rfl rfl rfl rfl (fun z63 hz63 => ?_)
    have tz63 := tf_64_3 hI1
    refine h_iconst (pc' := 165) (x := (Int32.ofInt 3)) rfl rfl rfl ?_
    refine h_ceq (tg := 180) (pc' := 168) rfl rfl rfl hz63 ci_3 (fun c64 => absurd c64 (by omega)) (fun c64 => ?_)
    clear hz63
    refine h_aload_n (pc' := 169) rfl rfl rfl ?_
    refine h_iconst (pc' := 170) (x := (Int32.ofInt 2)) rfl rfl rfl ?_
    refine h_aload_n (pc' := 171) rfl rfl rfl ?_
    refine h_getR (pc' := 174) rfl rfl rfl rfl rfl ?_
    refine h_getI (pc' := 177) (v := σ1 64 4) rfl rfl rfl rfl rfl rfl (fun z65 hz65 => ?_)
    have tz65 := tf_64_4 hI1
    refine h_call (sp := false) (pc' := 180) (M := [(0, .ref 63), (1, .int (Int32.ofInt 2)), (2, .int z65)]) rfl rfl rfl rfl rfl rfl rfl rfl ?_
    refine h_aload_n (pc' := 1) rfl rfl rfl ?_
    refine h_getI (pc' := 4) (v := σ1 63 2) rfl rfl rfl rfl rfl rfl (fun z66 hz66 => ?_)
    refine h_zne (tg := 17) (pc' := 7) rfl rfl rfl hz66 (fun c67 => absurd (Int.le_antisymm (by omega) (by omega)) c67) (fun c67 => ?_)
    clear hz66
    refine h_aload_n (pc' := 8) rfl rfl rfl ?_
    refine h_iload_n (pc' := 9) rfl rfl rfl ?_
    refine h_put (pc' := 12) rfl rfl rfl rfl rfl rfl ci_2 rfl (h_fgt (E := fun s => s 64 2 = σ1 64 2 ∧ s 64 4 = σ1 64 4 ∧ s 64 3 = σ1 64 3 ∧ s 64 5 = σ1 64 5 ∧ s 63 2 = 2 ∧ s 63 3 = σ1 63 3 ∧ s 64 1 = σ1 64 1 ∧ s = h_up σ1 63 2 2) _ (if_63_2 hI1 (by omega)) (F1.up rfl) ⟨rfl, rfl, rfl, rfl, rfl, rfl, rfl, rfl⟩ (fun s68 Is68 Fs68 (es68 : s68 64 2 = σ1 64 2 ∧ s68 64 4 = σ1 64 4 ∧ s68 64 3 = σ1 64 3 ∧ s68 64 5 = σ1 64 5 ∧ s68 63 2 = 2 ∧ s68 63 3 = σ1 63 3 ∧ s68 64 1 = σ1 64 1 ∧ s68 = h_up σ1 63 2 2) => ?_))
    have us68 := es68.2.2.2.2.2.2.2
    refine h_aload_n (pc' := 13) rfl rfl rfl ?_
    refine h_iload_n (pc' := 14) rfl rfl rfl ?_
    refine h_put (pc' := 17) rfl rfl rfl rfl rfl rfl hz65 rfl (h_fgt (E := fun s => s 64 2 = σ1 64 2 ∧ s 64 4 = σ1 64 4 ∧ s 64 3 = σ1 64 3 ∧ s 64 5 = σ1 64 5 ∧ s 63 2 = 2 ∧ s 63 3 = (σ1 64 4) ∧ s 64 1 = σ1 64 1 ∧ s = h_up s68 63 3 (σ1 64 4)) _ (if_63_3 Is68 (h_rgv hz65)) (Fs68.up rfl) ⟨es68.1, es68.2.1, es68.2.2.1, es68.2.2.2.1, es68.2.2.2.2.1, rfl, es68.2.2.2.2.2.2.1, rfl⟩ (fun s69 Is69 Fs69 (es69 : s69 64 2 = σ1 64 2 ∧ s69 64 4 = σ1 64 4 ∧ s69 64 3 = σ1 64 3 ∧ s69 64 5 = σ1 64 5 ∧ s69 63 2 = 2 ∧ s69 63 3 = (σ1 64 4) ∧ s69 64 1 = σ1 64 1 ∧ s69 = h_up s68 63 3 (σ1 64 4)) => ?_))
    clear es68
    have us69 := es69.2.2.2.2.2.2.2
    refine h_vret rfl rfl (h_Kn ?_)
    refine d_toM (g_inj ns) hl2 hR2 (fun lvw70 memw70 hlw70 hRw70 => ?_)
    show h_T g_P (g_Y ns) 154 145 [(0, .ref 98)] [] σ2 _
    refine h_aload_n (pc' := 146) rfl rfl rfl ?_
    refine h_getI (pc' := 149) (v := σ2 98 13) rfl rfl rfl rfl rfl rfl (fun z71 hz71 => ?_)
    have tz71 := tf_98_13 hI2
    refine h_zne (tg := 165) (pc' := 152) rfl rfl rfl hz71 (fun c72 => absurd (Int.le_antisymm (by omega) (by omega)) c72) (fun c72 => ?_)
    clear hz71
    refine h_aload_n (pc' := 153) rfl rfl rfl ?_
    refine h_getI (pc' := 156) (v := σ2 98 17) rfl rfl rfl rfl rfl rfl (fun z73 hz73 => ?_)
    have tz73 := tf_98_17 hI2
    refine h_iconst (pc' := 157) (x := (Int32.ofInt 3)) rfl rfl rfl ?_
    refine h_ceq (tg := 165) (pc' := 160) rfl rfl rfl hz73 ci_3 (fun c74 => absurd c74 (by omega)) (fun c74 => ?_)
    clear hz73
    refine h_aload_n (pc' := 161) rfl rfl rfl ?_
    refine h_iconst (pc' := 162) (x := (Int32.ofInt 2)) rfl rfl rfl ?_
    refine h_call (sp := false) (pc' := 165) (M := [(0, .ref 98), (1, .int (Int32.ofInt 2))]) rfl rfl rfl rfl rfl rfl rfl rfl ?_
    refine h_aload_n (pc' := 1) rfl rfl rfl ?_
    refine h_getI (pc' := 4) (v := σ2 98 13) rfl rfl rfl rfl rfl rfl (fun z75 hz75 => ?_)
    refine h_zne (tg := 20) (pc' := 7) rfl rfl rfl hz75 (fun c76 => absurd (Int.le_antisymm (by omega) (by omega)) c76) (fun c76 => ?_)
    clear hz75
    refine h_aload_n (pc' := 8) rfl rfl rfl ?_
    refine h_iload_n (pc' := 9) rfl rfl rfl ?_
    refine h_put (pc' := 12) rfl rfl rfl rfl rfl rfl ci_2 rfl (h_fgt (E := fun s => s 98 15 = σ2 98 15 ∧ s 98 16 = σ2 98 16 ∧ s 98 17 = σ2 98 17 ∧ s 98 18 = σ2 98 18 ∧ s 98 13 = 2 ∧ s 98 14 = σ2 98 14 ∧ s = h_up σ2 98 13 2) _ (if_98_13 hI2 (by omega)) (F2.up rfl) ⟨rfl, rfl, rfl, rfl, rfl, rfl, rfl⟩ (fun s77 Is77 Fs77 (es77 : s77 98 15 = σ2 98 15 ∧ s77 98 16 = σ2 98 16 ∧ s77 98 17 = σ2 98 17 ∧ s77 98 18 = σ2 98 18 ∧ s77 98 13 = 2 ∧ s77 98 14 = σ2 98 14 ∧ s77 = h_up σ2 98 13 2) => ?_))
    have us77 := es77.2.2.2.2.2.2
    refine h_aload_n (pc' := 13) rfl rfl rfl ?_
    refine h_aload_n (pc' := 14) rfl rfl rfl ?_
    refine h_getI (pc' := 17) (v := σ2 98 16) rfl rfl rfl rfl rfl es77.2.1 (fun z78 hz78 => ?_)
    have tz78 := tf_98_16 hI2
    refine h_put (pc' := 20) rfl rfl rfl rfl rfl rfl hz78 rfl (h_fgt (E := fun s => s 98 15 = σ2 98 15 ∧ s 98 16 = σ2 98 16 ∧ s 98 17 = σ2 98 17 ∧ s 98 18 = σ2 98 18 ∧ s 98 13 = 2 ∧ s 98 14 = (σ2 98 16) ∧ s = h_up s77 98 14 (σ2 98 16)) _ (if_98_14 Is77 (h_rgv hz78)) (Fs77.up rfl) ⟨es77.1, es77.2.1, es77.2.2.1, es77.2.2.2.1, es77.2.2.2.2.1, rfl, rfl⟩ (fun s79 Is79 Fs79 (es79 : s79 98 15 = σ2 98 15 ∧ s79 98 16 = σ2 98 16 ∧ s79 98 17 = σ2 98 17 ∧ s79 98 18 = σ2 98 18 ∧ s79 98 13 = 2 ∧ s79 98 14 = (σ2 98 16) ∧ s79 = h_up s77 98 14 (σ2 98 16)) => ?_))
    clear es77
    have us79 := es79.2.2.2.2.2.2
    refine h_vret rfl rfl (h_Kn ?_)
    refine d_toL (g_inj ns) hlw70 hRw70 (fun lvw80 memw80 hlw80 hRw80 => ?_)
    show h_T g_P (g_Y ns) 56 180 [(0, .ref 63)] [] s69 _
    exact h_wk [(0, .ref 63)] ⟨rfl, trivial⟩ (kx0 _ _ Is69 Is79 Fs69 Fs79 (Int.le_antisymm (by omega) (by omega)) (Int.le_antisymm (by omega) (by omega)) (Int.le_antisymm (by omega) (by omega)) (by omega) (by omega) (fun h => absurd h (by omega)) (Or.inl ⟨⟨by omega, by omega⟩, ⟨by omega, by omega⟩, Int.le_antisymm (by omega) (by omega), Int.le_antisymm (by omega) (by omega)⟩) _ _ (h_al_ok ⟨rfl, trivial⟩ hlw80) hRw80)
  · show h_T g_P (g_Y ns) 56 150 [(0, .ref 63)] [] σ1 _
    refine h_aload_n (pc' := 151) rfl rfl rfl ?_
    refine h_getI (pc' := 154) (v := σ1 63 2) rfl rfl rfl rfl rfl rfl (fun z81 hz81 => ?_)
    have tz81 := tf_63_2 hI1
    refine h_zne (tg := 180) (pc' := 157) rfl rfl rfl hz81 (fun c82 => absurd (Int.le_antisymm (by omega) (by omega)) c82) (fun c82 => ?_)
    clear hz81
    refine h_aload_n (pc' := 158) rfl rfl rfl ?_
    refine h_getR (pc' := 161) rfl rfl rfl rfl rfl ?_
    refine h_getI (pc' := 164) (v := σ1 64 3) rfl rfl rfl rfl rfl rfl (fun z83 hz83 => ?_)
    have tz83 := tf_64_3 hI1
    refine h_iconst (pc' := 165) (x := (Int32.ofInt 3)) rfl rfl rfl ?_
    refine h_ceq (tg := 180) (pc' := 168) rfl rfl rfl hz83 ci_3 (fun c84 => ?_) (fun c84 => absurd (Int.le_antisymm (by omega) (by omega)) c84)
    clear hz83
    refine d_toM (g_inj ns) hl2 hR2 (fun lvw85 memw85 hlw85 hRw85 => ?_)
    show h_T g_P (g_Y ns) 154 145 [(0, .ref 98)] [] σ2 _
    refine h_aload_n (pc' := 146) rfl rfl rfl ?_
    refine h_getI (pc' := 149) (v := σ2 98 13) rfl rfl rfl rfl rfl rfl (fun z86 hz86 => ?_)
    have tz86 := tf_98_13 hI2
    refine h_zne (tg := 165) (pc' := 152) rfl rfl rfl hz86 (fun c87 => absurd (Int.le_antisymm (by omega) (by omega)) c87) (fun c87 => ?_)
    clear hz86
    refine h_aload_n (pc' := 153) rfl rfl rfl ?_
    refine h_getI (pc' := 156) (v := σ2 98 17) rfl rfl rfl rfl rfl rfl (fun z88 hz88 => ?_)
    have tz88 := tf_98_17 hI2
    refine h_iconst (pc' := 157) (x := (Int32.ofInt 3)) rfl rfl rfl ?_
    refine h_ceq (tg := 165) (pc' := 160) rfl rfl rfl hz88 ci_3 (fun c89 => ?_) (fun c89 => absurd (Int.le_antisymm (by omega) (by omega)) c89)
    clear hz88
    refine d_toL (g_inj ns) hlw85 hRw85 (fun lvw90 memw90 hlw90 hRw90 => ?_)
    show h_T g_P (g_Y ns) 56 180 [(0, .ref 63)] [] σ1 _
    exact h_wk [(0, .ref 63)] ⟨rfl, trivial⟩ (kx0 _ _ hI1 hI2 F1 F2 (Int.le_antisymm (by omega) (by omega)) (Int.le_antisymm (by omega) (by omega)) (Int.le_antisymm (by omega) (by omega)) (by omega) (by omega) (fun _ => d_mk (rfl) (rfl) (rfl) (rfl) (rfl) (rfl) (fun j => rfl) (fun j => rfl) (fun j => rfl) (fun j => rfl) (fun j => rfl) (fun j => rfl) (fun j => rfl) (fun j => rfl) (fun j => rfl) (fun j => rfl) (rfl) (rfl) (rfl) (rfl) (rfl) (fun j => rfl) (pr4 (by omega))) (Or.inr ⟨Int.le_antisymm (by omega) (by omega), Int.le_antisymm (by omega) (by omega), Int.le_antisymm (by omega) (by omega), Int.le_antisymm (by omega) (by omega), by omega, Int.le_antisymm (by omega) (by omega), Int.le_antisymm (by omega) (by omega)⟩) _ _ (h_al_ok ⟨rfl, trivial⟩ hlw90) hRw90)
