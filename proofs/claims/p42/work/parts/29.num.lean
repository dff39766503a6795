set_option maxHeartbeats 100000000 in
theorem pp_num {ns : Nat} {σ1 σ2 : h_S} (hI1 : h_I σ1) (hI2 : h_I σ2) (hTL : d_tape σ1 σ2) (x1 : Int32) (a1 : Int) (hx1 : x1.toInt = a1) (y2 : Int32) (c2 : Int) (hy2 : y2.toInt = c2) (pr0 : σ1 64 2 = σ2 98 15) (pr1 : σ1 64 4 = σ2 98 16) (pr2 : σ1 63 2 = σ2 98 13) (pr3 : σ1 64 2 ≤ σ1 64 1) (pr4 : a1 = c2) (pr5 : -1 ≤ a1 ∧ a1 ≤ 9) (pc0 : ((1 ≤ σ1 63 2 ∧ σ1 63 2 ≤ 6) ∧ (1 ≤ σ2 98 13 ∧ σ2 98 13 ≤ 6) ∧ (σ1 63 2 = σ2 98 13) ∧ (σ1 63 3 = σ2 98 14)) ∨ ((σ1 63 2 = 0) ∧ (σ1 64 3 = 0) ∧ (σ2 98 13 = 0) ∧ (σ2 98 17 = 0) ∧ (σ1 64 4 = σ1 64 1)) ∨ ((σ1 63 2 = 0) ∧ (σ1 64 3 = 1) ∧ (σ2 98 13 = 0) ∧ (σ2 98 17 = 1) ∧ (σ1 64 4 < σ1 64 2)) ∨ ((σ1 63 2 = 0) ∧ (σ1 64 3 = 2) ∧ (σ2 98 13 = 0) ∧ (σ2 98 17 = 2) ∧ (0 ≤ σ1 64 5 ∧ σ1 64 5 ≤ 99) ∧ (0 ≤ σ2 98 18 ∧ σ2 98 18 ≤ 99) ∧ (σ1 64 5 = σ2 98 18) ∧ (σ1 64 4 < σ1 64 2)) ∨ ((σ1 63 2 = 0) ∧ (σ1 64 3 = 3) ∧ (σ2 98 13 = 0) ∧ (σ2 98 17 = 3) ∧ (σ1 64 4 < σ1 64 2))) {Q : d_Q} (kk : ∀ (r1 : Int32) (b1 : Int) (hb1 : r1.toInt = b1) (r2 : Int32) (b2 : Int) (hb2 : r2.toInt = b2) (τ1 τ2 : h_S), h_I τ1 → h_I τ2 → h_F (k_in k_lx) τ1 σ1 → h_F (k_in k_lm) τ2 σ2 → (τ1 64 2 = τ2 98 15) → (τ1 64 4 = τ2 98 16) → (τ1 63 2 = τ2 98 13) → (τ1 64 2 ≤ τ1 64 1) → (σ1 64 2 ≤ τ1 64 2) → (((1 ≤ τ1 63 2 ∧ τ1 63 2 ≤ 6) ∧ (1 ≤ τ2 98 13 ∧ τ2 98 13 ≤ 6) ∧ (τ1 63 2 = τ2 98 13) ∧ (τ1 63 3 = τ2 98 14) ∧ (0 ≤ b2 ∧ (b2 ≤ a1 ∨ b2 = 0))) ∨ ((σ1 63 2 = 0) ∧ (σ1 64 3 = 2) ∧ (τ1 63 2 = 0) ∧ (τ1 64 3 = 0) ∧ (τ2 98 13 = 0) ∧ (τ2 98 17 = 0) ∧ (τ1 64 4 = τ1 64 1) ∧ (b1 = b2) ∧ (0 ≤ b1 ∧ b1 ≤ a1) ∧ (b1 = σ1 64 5)) ∨ ((σ1 63 2 = 0) ∧ (σ1 64 3 = 2) ∧ (τ1 63 2 = 0) ∧ (τ1 64 3 = 1) ∧ (τ2 98 13 = 0) ∧ (τ2 98 17 = 1) ∧ (τ1 64 4 < τ1 64 2) ∧ (σ1 64 2 < τ1 64 2) ∧ (b1 = b2) ∧ (0 ≤ b1 ∧ b1 ≤ a1) ∧ (b1 = σ1 64 5)) ∨ ((σ1 63 2 = 0) ∧ (σ1 64 3 = 2) ∧ (τ1 63 2 = 0) ∧ (τ1 64 3 = 2) ∧ (τ2 98 13 = 0) ∧ (τ2 98 17 = 2) ∧ (0 ≤ τ1 64 5 ∧ τ1 64 5 ≤ 99) ∧ (0 ≤ τ2 98 18 ∧ τ2 98 18 ≤ 99) ∧ (τ1 64 5 = τ2 98 18) ∧ (τ1 64 4 < τ1 64 2) ∧ (σ1 64 2 < τ1 64 2) ∧ (b1 = b2) ∧ (0 ≤ b1 ∧ b1 ≤ a1) ∧ (b1 = σ1 64 5)) ∨ ((σ1 63 2 = 0) ∧ (σ1 64 3 = 2) ∧ (τ1 63 2 = 0) ∧ (τ1 64 3 = 3) ∧ (τ2 98 13 = 0) ∧ (τ2 98 17 = 3) ∧ (τ1 64 4 < τ1 64 2) ∧ (σ1 64 2 < τ1 64 2) ∧ (b1 = b2) ∧ (0 ≤ b1 ∧ b1 ≤ a1) ∧ (b1 = σ1 64 5))) → Q (some (.int r1)) τ1 (some (.int r2)) τ2) : d_P g_P (g_Y ns) 58 0 [(0, .ref 63), (1, .int x1)] σ1 149 0 [(0, .ref 98), (1, .int (Int32.ofInt 0)), (2, .int y2)] σ2 Q := by
  intro lv2 mem2 hl2 hR2
  have hT := hTL.1
  have hL := hTL.2
  have F1 : h_F (k_in k_lx) σ1 σ1 := h_F.rf
  have F2 : h_F (k_in k_lm) σ2 σ2 := h_F.rf
  have ge0 := tf_64_1 hI1
  rcases pc0 with pc0 | pc0 | pc0 | pc0 | pc0
  · show h_T g_P (g_Y ns) 58 0 [(0, .ref 63), (1, .int x1)] [] σ1 _
    refine h_aload_n (pc' := 1) rfl rfl rfl ?_
    refine h_getI (pc' := 4) (v := σ1 63 2) rfl rfl rfl rfl rfl rfl (fun z1 hz1 => ?_)
    have tz1 := tf_63_2 hI1
    refine h_zne (tg := 30) (pc' := 7) rfl rfl rfl hz1 (fun c2 => ?_) (fun c2 => absurd c2 (by omega))
    clear hz1
    refine h_aload_n (pc' := 31) rfl rfl rfl ?_
    refine h_getI (pc' := 34) (v := σ1 63 2) rfl rfl rfl rfl rfl rfl (fun z3 hz3 => ?_)
    refine h_zne (tg := 60) (pc' := 37) rfl rfl rfl hz3 (fun c4 => ?_) (fun c4 => absurd c4 (by omega))
    clear hz3
    refine h_aload_n (pc' := 61) rfl rfl rfl ?_
    refine h_getR (pc' := 64) rfl rfl rfl rfl rfl ?_
    refine h_getI (pc' := 67) (v := σ1 64 5) rfl rfl rfl rfl rfl rfl (fun z5 hz5 => ?_)
    have tz5 := tf_64_5 hI1
    refine h_istore_n (pc' := 68) (M := [(2, .int z5), (0, .ref 63), (1, .int x1)]) rfl rfl rfl rfl ?_
    refine h_aload_n (pc' := 69) rfl rfl rfl ?_
    refine d_toM (g_inj ns) hl2 hR2 (fun lvw6 memw6 hlw6 hRw6 => ?_)
    show h_T g_P (g_Y ns) 149 0 [(0, .ref 98), (1, .int (Int32.ofInt 0)), (2, .int y2)] [] σ2 _
    refine h_aload_n (pc' := 1) rfl rfl rfl ?_
    refine h_getI (pc' := 4) (v := σ2 98 13) rfl rfl rfl rfl rfl rfl (fun z7 hz7 => ?_)
    have tz7 := tf_98_13 hI2
    refine h_zne (tg := 20) (pc' := 7) rfl rfl rfl hz7 (fun c8 => ?_) (fun c8 => absurd c8 (by omega))
    clear hz7
    refine h_aload_n (pc' := 21) rfl rfl rfl ?_
    refine h_getI (pc' := 24) (v := σ2 98 13) rfl rfl rfl rfl rfl rfl (fun z9 hz9 => ?_)
    refine h_zne (tg := 47) (pc' := 27) rfl rfl rfl hz9 (fun c10 => ?_) (fun c10 => absurd c10 (by omega))
    clear hz9
    refine h_aload_n (pc' := 48) rfl rfl rfl ?_
    refine h_getI (pc' := 51) (v := σ2 98 13) rfl rfl rfl rfl rfl rfl (fun z11 hz11 => ?_)
    refine h_zne (tg := 61) (pc' := 54) rfl rfl rfl hz11 (fun c12 => ?_) (fun c12 => absurd c12 (by omega))
    clear hz11
    refine h_iload_n (pc' := 62) rfl rfl rfl ?_
    refine h_istore_n (pc' := 63) (M := [(3, .int (Int32.ofInt 0)), (0, .ref 98), (1, .int (Int32.ofInt 0)), (2, .int y2)]) rfl rfl rfl rfl ?_
    refine h_aload_n (pc' := 64) rfl rfl rfl ?_
    refine d_pcall (g_inj ns) (m1 := 54) (pc1' := 72) (M1 := [(0, .ref 63)]) (rest1 := []) (m2 := 148) (pc2' := 67) (M2 := [(0, .ref 98)]) (rest2 := []) ⟨false, _, _, _, _, _, _, rfl, rfl, rfl, rfl, rfl, rfl, rfl⟩ ⟨false, _, _, _, _, _, _, rfl, rfl, rfl, rfl, rfl, rfl, rfl⟩ hRw6 ?_
    refine pp_step hI1 hI2 (hTL.fr (F1.mono rfl) (F2.mono rfl)) (by omega) (by omega) (by omega) (by omega) (Or.inl ⟨by omega, by omega, by omega⟩) (fun sq13 tq13 Isq13 Itq13 Gsq13 Gtq13 yq13_0 yq13_1 yq13_2 yq13_3 yq13_4 pcq13 memq13 hRq13 => ?_)
    have Fsq13 := (Gsq13.mono (B := k_lx) rfl).tr F1
    have Ftq13 := (Gtq13.mono (B := k_lm) rfl).tr F2
    have esq13_6 : sq13 64 1 = σ1 64 1 := (Gsq13 64 1 rfl).trans rfl
    rcases pcq13 with pcq13 | pcq13 | pcq13 | pcq13 | pcq13
    · show h_T g_P (g_Y ns) 149 67 [(3, .int (Int32.ofInt 0)), (0, .ref 98), (1, .int (Int32.ofInt 0)), (2, .int y2)] [] tq13 _
      refine h_iload_n (pc' := 68) rfl rfl rfl ?_
      refine d_toL (g_inj ns) hlw6 hRq13 (fun lvw14 memw14 hlw14 hRw14 => ?_)
      show h_T g_P (g_Y ns) 58 72 [(2, .int z5), (0, .ref 63), (1, .int x1)] [] sq13 _
      refine h_iload_n (pc' := 73) rfl rfl rfl ?_
      refine h_iret rfl rfl (d_endL hlw14 hRw14 ?_)
      show h_T g_P (g_Y ns) 149 68 [(3, .int (Int32.ofInt 0)), (0, .ref 98), (1, .int (Int32.ofInt 0)), (2, .int y2)] [.int (Int32.ofInt 0)] tq13 _
      exact h_iret rfl rfl (d_cs.nil (kk _ _ hz5 _ _ ci_0 _ _ Isq13 Itq13 Fsq13 Ftq13 (by omega) (by omega) (by omega) (by omega) (by omega) (Or.inl ⟨by omega, by omega, by omega, by omega, by omega⟩)))
    · exfalso; omega
    · exfalso; omega
    · exfalso; omega
    · exfalso; omega
  · show h_T g_P (g_Y ns) 58 0 [(0, .ref 63), (1, .int x1)] [] σ1 _
    refine h_aload_n (pc' := 1) rfl rfl rfl ?_
    refine h_getI (pc' := 4) (v := σ1 63 2) rfl rfl rfl rfl rfl rfl (fun z15 hz15 => ?_)
    have tz15 := tf_63_2 hI1
    refine h_zne (tg := 30) (pc' := 7) rfl rfl rfl hz15 (fun c16 => absurd c16 (by omega)) (fun c16 => ?_)
    clear hz15
    refine h_aload_n (pc' := 8) rfl rfl rfl ?_
    refine h_getR (pc' := 11) rfl rfl rfl rfl rfl ?_
    refine h_getI (pc' := 14) (v := σ1 64 3) rfl rfl rfl rfl rfl rfl (fun z17 hz17 => ?_)
    have tz17 := tf_64_3 hI1
    refine h_iconst (pc' := 15) (x := (Int32.ofInt 2)) rfl rfl rfl ?_
    refine h_ceq (tg := 30) (pc' := 18) rfl rfl rfl hz17 ci_2 (fun c18 => absurd c18 (by omega)) (fun c18 => ?_)
    clear hz17
    refine h_aload_n (pc' := 19) rfl rfl rfl ?_
    refine h_iconst (pc' := 20) (x := (Int32.ofInt 2)) rfl rfl rfl ?_
    refine h_aload_n (pc' := 21) rfl rfl rfl ?_
    refine h_getR (pc' := 24) rfl rfl rfl rfl rfl ?_
    refine h_getI (pc' := 27) (v := σ1 64 4) rfl rfl rfl rfl rfl rfl (fun z19 hz19 => ?_)
    have tz19 := tf_64_4 hI1
    refine h_call (sp := false) (pc' := 30) (M := [(0, .ref 63), (1, .int (Int32.ofInt 2)), (2, .int z19)]) rfl rfl rfl rfl rfl rfl rfl rfl ?_
    refine h_aload_n (pc' := 1) rfl rfl rfl ?_
    refine h_getI (pc' := 4) (v := σ1 63 2) rfl rfl rfl rfl rfl rfl (fun z20 hz20 => ?_)
    refine h_zne (tg := 17) (pc' := 7) rfl rfl rfl hz20 (fun c21 => absurd c21 (by omega)) (fun c21 => ?_)
    clear hz20
    refine h_aload_n (pc' := 8) rfl rfl rfl ?_
    refine h_iload_n (pc' := 9) rfl rfl rfl ?_
    refine h_put (pc' := 12) rfl rfl rfl rfl rfl rfl ci_2 rfl (h_fgt (E := fun s => s 64 2 = σ1 64 2 ∧ s 64 4 = σ1 64 4 ∧ s 64 3 = σ1 64 3 ∧ s 64 5 = σ1 64 5 ∧ s 63 2 = 2 ∧ s 63 3 = σ1 63 3 ∧ s 64 1 = σ1 64 1) _ (if_63_2 hI1 (by omega)) (F1.up rfl) ⟨rfl, rfl, rfl, rfl, rfl, rfl, rfl⟩ (fun s22 Is22 Fs22 (es22 : s22 64 2 = σ1 64 2 ∧ s22 64 4 = σ1 64 4 ∧ s22 64 3 = σ1 64 3 ∧ s22 64 5 = σ1 64 5 ∧ s22 63 2 = 2 ∧ s22 63 3 = σ1 63 3 ∧ s22 64 1 = σ1 64 1) => ?_))
    refine h_aload_n (pc' := 13) rfl rfl rfl ?_
    refine h_iload_n (pc' := 14) rfl rfl rfl ?_
    refine h_put (pc' := 17) rfl rfl rfl rfl rfl rfl hz19 rfl (h_fgt (E := fun s => s 64 2 = σ1 64 2 ∧ s 64 4 = σ1 64 4 ∧ s 64 3 = σ1 64 3 ∧ s 64 5 = σ1 64 5 ∧ s 63 2 = 2 ∧ s 63 3 = (σ1 64 4) ∧ s 64 1 = σ1 64 1) _ (if_63_3 Is22 (h_rgv hz19)) (Fs22.up rfl) ⟨es22.1, es22.2.1, es22.2.2.1, es22.2.2.2.1, es22.2.2.2.2.1, rfl, es22.2.2.2.2.2.2⟩ (fun s23 Is23 Fs23 (es23 : s23 64 2 = σ1 64 2 ∧ s23 64 4 = σ1 64 4 ∧ s23 64 3 = σ1 64 3 ∧ s23 64 5 = σ1 64 5 ∧ s23 63 2 = 2 ∧ s23 63 3 = (σ1 64 4) ∧ s23 64 1 = σ1 64 1) => ?_))
    clear es22
    refine h_vret rfl rfl (h_Kn ?_)
    refine h_aload_n (pc' := 31) rfl rfl rfl ?_
    refine h_getI (pc' := 34) (v := 2) rfl rfl rfl rfl rfl es23.2.2.2.2.1 (fun z24 hz24 => ?_)
    refine h_zne (tg := 60) (pc' := 37) rfl rfl rfl hz24 (fun c25 => ?_) (fun c25 => absurd c25 (by omega))
    clear hz24
    refine h_aload_n (pc' := 61) rfl rfl rfl ?_
    refine h_getR (pc' := 64) rfl rfl rfl rfl rfl ?_
    refine h_getI (pc' := 67) (v := σ1 64 5) rfl rfl rfl rfl rfl es23.2.2.2.1 (fun z26 hz26 => ?_)
    have tz26 := tf_64_5 hI1
    refine h_istore_n (pc' := 68) (M := [(2, .int z26), (0, .ref 63), (1, .int x1)]) rfl rfl rfl rfl ?_
    refine h_aload_n (pc' := 69) rfl rfl rfl ?_
    refine d_toM (g_inj ns) hl2 hR2 (fun lvw27 memw27 hlw27 hRw27 => ?_)
    show h_T g_P (g_Y ns) 149 0 [(0, .ref 98), (1, .int (Int32.ofInt 0)), (2, .int y2)] [] σ2 _
    refine h_aload_n (pc' := 1) rfl rfl rfl ?_
    refine h_getI (pc' := 4) (v := σ2 98 13) rfl rfl rfl rfl rfl rfl (fun z28 hz28 => ?_)
    have tz28 := tf_98_13 hI2
    refine h_zne (tg := 20) (pc' := 7) rfl rfl rfl hz28 (fun c29 => absurd c29 (by omega)) (fun c29 => ?_)
    clear hz28
    refine h_aload_n (pc' := 8) rfl rfl rfl ?_
    refine h_getI (pc' := 11) (v := σ2 98 17) rfl rfl rfl rfl rfl rfl (fun z30 hz30 => ?_)
    have tz30 := tf_98_17 hI2
    refine h_iconst (pc' := 12) (x := (Int32.ofInt 2)) rfl rfl rfl ?_
    refine h_ceq (tg := 20) (pc' := 15) rfl rfl rfl hz30 ci_2 (fun c31 => absurd c31 (by omega)) (fun c31 => ?_)
    clear hz30
    refine h_aload_n (pc' := 16) rfl rfl rfl ?_
    refine h_iconst (pc' := 17) (x := (Int32.ofInt 2)) rfl rfl rfl ?_
    refine h_call (sp := false) (pc' := 20) (M := [(0, .ref 98), (1, .int (Int32.ofInt 2))]) rfl rfl rfl rfl rfl rfl rfl rfl ?_
    refine h_aload_n (pc' := 1) rfl rfl rfl ?_
    refine h_getI (pc' := 4) (v := σ2 98 13) rfl rfl rfl rfl rfl rfl (fun z32 hz32 => ?_)
    refine h_zne (tg := 20) (pc' := 7) rfl rfl rfl hz32 (fun c33 => absurd c33 (by omega)) (fun c33 => ?_)
    clear hz32
    refine h_aload_n (pc' := 8) rfl rfl rfl ?_
    refine h_iload_n (pc' := 9) rfl rfl rfl ?_
    refine h_put (pc' := 12) rfl rfl rfl rfl rfl rfl ci_2 rfl (h_fgt (E := fun s => s 98 15 = σ2 98 15 ∧ s 98 16 = σ2 98 16 ∧ s 98 17 = σ2 98 17 ∧ s 98 18 = σ2 98 18 ∧ s 98 13 = 2 ∧ s 98 14 = σ2 98 14) _ (if_98_13 hI2 (by omega)) (F2.up rfl) ⟨rfl, rfl, rfl, rfl, rfl, rfl⟩ (fun s34 Is34 Fs34 (es34 : s34 98 15 = σ2 98 15 ∧ s34 98 16 = σ2 98 16 ∧ s34 98 17 = σ2 98 17 ∧ s34 98 18 = σ2 98 18 ∧ s34 98 13 = 2 ∧ s34 98 14 = σ2 98 14) => ?_))
    refine h_aload_n (pc' := 13) rfl rfl rfl ?_
    refine h_aload_n (pc' := 14) rfl rfl rfl ?_
    refine h_getI (pc' := 17) (v := σ2 98 16) rfl rfl rfl rfl rfl es34.2.1 (fun z35 hz35 => ?_)
    have tz35 := tf_98_16 hI2
    refine h_put (pc' := 20) rfl rfl rfl rfl rfl rfl hz35 rfl (h_fgt (E := fun s => s 98 15 = σ2 98 15 ∧ s 98 16 = σ2 98 16 ∧ s 98 17 = σ2 98 17 ∧ s 98 18 = σ2 98 18 ∧ s 98 13 = 2 ∧ s 98 14 = (σ2 98 16)) _ (if_98_14 Is34 (h_rgv hz35)) (Fs34.up rfl) ⟨es34.1, es34.2.1, es34.2.2.1, es34.2.2.2.1, es34.2.2.2.2.1, rfl⟩ (fun s36 Is36 Fs36 (es36 : s36 98 15 = σ2 98 15 ∧ s36 98 16 = σ2 98 16 ∧ s36 98 17 = σ2 98 17 ∧ s36 98 18 = σ2 98 18 ∧ s36 98 13 = 2 ∧ s36 98 14 = (σ2 98 16)) => ?_))
    clear es34
    refine h_vret rfl rfl (h_Kn ?_)
    refine h_aload_n (pc' := 21) rfl rfl rfl ?_
    refine h_getI (pc' := 24) (v := 2) rfl rfl rfl rfl rfl es36.2.2.2.2.1 (fun z37 hz37 => ?_)
    refine h_zne (tg := 47) (pc' := 27) rfl rfl rfl hz37 (fun c38 => ?_) (fun c38 => absurd c38 (by omega))
    clear hz37
    refine h_aload_n (pc' := 48) rfl rfl rfl ?_
    refine h_getI (pc' := 51) (v := 2) rfl rfl rfl rfl rfl es36.2.2.2.2.1 (fun z39 hz39 => ?_)
    refine h_zne (tg := 61) (pc' := 54) rfl rfl rfl hz39 (fun c40 => ?_) (fun c40 => absurd c40 (by omega))
    clear hz39
    refine h_iload_n (pc' := 62) rfl rfl rfl ?_
    refine h_istore_n (pc' := 63) (M := [(3, .int (Int32.ofInt 0)), (0, .ref 98), (1, .int (Int32.ofInt 0)), (2, .int y2)]) rfl rfl rfl rfl ?_
    refine h_aload_n (pc' := 64) rfl rfl rfl ?_
    refine d_pcall (g_inj ns) (m1 := 54) (pc1' := 72) (M1 := [(0, .ref 63)]) (rest1 := []) (m2 := 148) (pc2' := 67) (M2 := [(0, .ref 98)]) (rest2 := []) ⟨false, _, _, _, _, _, _, rfl, rfl, rfl, rfl, rfl, rfl, rfl⟩ ⟨false, _, _, _, _, _, _, rfl, rfl, rfl, rfl, rfl, rfl, rfl⟩ hRw27 ?_
    refine pp_step Is23 Is36 (hTL.fr (Fs23.mono rfl) (Fs36.mono rfl)) (by omega) (by omega) (by omega) (by omega) (Or.inl ⟨by omega, by omega, by omega⟩) (fun sq41 tq41 Isq41 Itq41 Gsq41 Gtq41 yq41_0 yq41_1 yq41_2 yq41_3 yq41_4 pcq41 memq41 hRq41 => ?_)
    have Fsq41 := (Gsq41.mono (B := k_lx) rfl).tr Fs23
    have Ftq41 := (Gtq41.mono (B := k_lm) rfl).tr Fs36
    have esq41_6 : sq41 64 1 = σ1 64 1 := (Gsq41 64 1 rfl).trans es23.2.2.2.2.2.2
    rcases pcq41 with pcq41 | pcq41 | pcq41 | pcq41 | pcq41
    · show h_T g_P (g_Y ns) 149 67 [(3, .int (Int32.ofInt 0)), (0, .ref 98), (1, .int (Int32.ofInt 0)), (2, .int y2)] [] tq41 _
      clear hz19 hz35
      refine h_iload_n (pc' := 68) rfl rfl rfl ?_
      refine d_toL (g_inj ns) hlw27 hRq41 (fun lvw42 memw42 hlw42 hRw42 => ?_)
      show h_T g_P (g_Y ns) 58 72 [(2, .int z26), (0, .ref 63), (1, .int x1)] [] sq41 _
      refine h_iload_n (pc' := 73) rfl rfl rfl ?_
      refine h_iret rfl rfl (d_endL hlw42 hRw42 ?_)
      show h_T g_P (g_Y ns) 149 68 [(3, .int (Int32.ofInt 0)), (0, .ref 98), (1, .int (Int32.ofInt 0)), (2, .int y2)] [.int (Int32.ofInt 0)] tq41 _
      exact h_iret rfl rfl (d_cs.nil (kk _ _ hz26 _ _ ci_0 _ _ Isq41 Itq41 Fsq41 Ftq41 (by omega) (by omega) (by omega) (by omega) (by omega) (Or.inl ⟨by omega, by omega, by omega, by omega, by omega⟩)))
    · exfalso; omega
    · exfalso; omega
    · exfalso; omega
    · exfalso; omega
  · show h_T g_P (g_Y ns) 58 0 [(0, .ref 63), (1, .int x1)] [] σ1 _
    refine h_aload_n (pc' := 1) rfl rfl rfl ?_
    refine h_getI (pc' := 4) (v := σ1 63 2) rfl rfl rfl rfl rfl rfl (fun z43 hz43 => ?_)
    have tz43 := tf_63_2 hI1
    refine h_zne (tg := 30) (pc' := 7) rfl rfl rfl hz43 (fun c44 => absurd c44 (by omega)) (fun c44 => ?_)
    clear hz43
    refine h_aload_n (pc' := 8) rfl rfl rfl ?_
    refine h_getR (pc' := 11) rfl rfl rfl rfl rfl ?_
    refine h_getI (pc' := 14) (v := σ1 64 3) rfl rfl rfl rfl rfl rfl (fun z45 hz45 => ?_)
    have tz45 := tf_64_3 hI1
    refine h_iconst (pc' := 15) (x := (Int32.ofInt 2)) rfl rfl rfl ?_
    refine h_ceq (tg := 30) (pc' := 18) rfl rfl rfl hz45 ci_2 (fun c46 => absurd c46 (by omega)) (fun c46 => ?_)
    clear hz45
    refine h_aload_n (pc' := 19) rfl rfl rfl ?_
    refine h_iconst (pc' := 20) (x := (Int32.ofInt 2)) rfl rfl rfl ?_
    refine h_aload_n (pc' := 21) rfl rfl rfl ?_
    refine h_getR (pc' := 24) rfl rfl rfl rfl rfl ?_
    refine h_getI (pc' := 27) (v := σ1 64 4) rfl rfl rfl rfl rfl rfl (fun z47 hz47 => ?_)
    have tz47 := tf_64_4 hI1
    refine h_call (sp := false) (pc' := 30) (M := [(0, .ref 63), (1, .int (Int32.ofInt 2)), (2, .int z47)]) rfl rfl rfl rfl rfl rfl rfl rfl ?_
    refine h_aload_n (pc' := 1) rfl rfl rfl ?_
    refine h_getI (pc' := 4) (v := σ1 63 2) rfl rfl rfl rfl rfl rfl (fun z48 hz48 => ?_)
    refine h_zne (tg := 17) (pc' := 7) rfl rfl rfl hz48 (fun c49 => absurd c49 (by omega)) (fun c49 => ?_)
    clear hz48
    refine h_aload_n (pc' := 8) rfl rfl rfl ?_
    refine h_iload_n (pc' := 9) rfl rfl rfl ?_
    refine h_put (pc' := 12) rfl rfl rfl rfl rfl rfl ci_2 rfl (h_fgt (E := fun s => s 64 2 = σ1 64 2 ∧ s 64 4 = σ1 64 4 ∧ s 64 3 = σ1 64 3 ∧ s 64 5 = σ1 64 5 ∧ s 63 2 = 2 ∧ s 63 3 = σ1 63 3 ∧ s 64 1 = σ1 64 1) _ (if_63_2 hI1 (by omega)) (F1.up rfl) ⟨rfl, rfl, rfl, rfl, rfl, rfl, rfl⟩ (fun s50 Is50 Fs50 (es50 : s50 64 2 = σ1 64 2 ∧ s50 64 4 = σ1 64 4 ∧ s50 64 3 = σ1 64 3 ∧ s50 64 5 = σ1 64 5 ∧ s50 63 2 = 2 ∧ s50 63 3 = σ1 63 3 ∧ s50 64 1 = σ1 64 1) => ?_))
    refine h_aload_n (pc' := 13) rfl rfl rfl ?_
    refine h_iload_n (pc' := 14) rfl rfl rfl ?_
    refine h_put (pc' := 17) rfl rfl rfl rfl rfl rfl hz47 rfl (h_fgt (E := fun s => s 64 2 = σ1 64 2 ∧ s 64 4 = σ1 64 4 ∧ s 64 3 = σ1 64 3 ∧ s 64 5 = σ1 64 5 ∧ s 63 2 = 2 ∧ s 63 3 = (σ1 64 4) ∧ s 64 1 = σ1 64 1) _ (if_63_3 Is50 (h_rgv hz47)) (Fs50.up rfl) ⟨es50.1, es50.2.1, es50.2.2.1, es50.2.2.2.1, es50.2.2.2.2.1, rfl, es50.2.2.2.2.2.2⟩ (fun s51 Is51 Fs51 (es51 : s51 64 2 = σ1 64 2 ∧ s51 64 4 = σ1 64 4 ∧ s51 64 3 = σ1 64 3 ∧ s51 64 5 = σ1 64 5 ∧ s51 63 2 = 2 ∧ s51 63 3 = (σ1 64 4) ∧ s51 64 1 = σ1 64 1) => ?_))
    clear es50
    refine h_vret rfl rfl (h_Kn ?_)
    refine h_aload_n (pc' := 31) rfl rfl rfl ?_
    refine h_getI (pc' := 34) (v := 2) rfl rfl rfl rfl rfl es51.2.2.2.2.1 (fun z52 hz52 => ?_)
    refine h_zne (tg := 60) (pc' := 37) rfl rfl rfl hz52 (fun c53 => ?_) (fun c53 => absurd c53 (by omega))
    clear hz52
    refine h_aload_n (pc' := 61) rfl rfl rfl ?_
    refine h_getR (pc' := 64) rfl rfl rfl rfl rfl ?_
    refine h_getI (pc' := 67) (v := σ1 64 5) rfl rfl rfl rfl rfl es51.2.2.2.1 (fun z54 hz54 => ?_)
    have tz54 := tf_64_5 hI1
    refine h_istore_n (pc' := 68) (M := [(2, .int z54), (0, .ref 63), (1, .int x1)]) rfl rfl rfl rfl ?_
    refine h_aload_n (pc' := 69) rfl rfl rfl ?_
    refine d_toM (g_inj ns) hl2 hR2 (fun lvw55 memw55 hlw55 hRw55 => ?_)
    show h_T g_P (g_Y ns) 149 0 [(0, .ref 98), (1, .int (Int32.ofInt 0)), (2, .int y2)] [] σ2 _
    refine h_aload_n (pc' := 1) rfl rfl rfl ?_
    refine h_getI (pc' := 4) (v := σ2 98 13) rfl rfl rfl rfl rfl rfl (fun z56 hz56 => ?_)
    have tz56 := tf_98_13 hI2
    refine h_zne (tg := 20) (pc' := 7) rfl rfl rfl hz56 (fun c57 => absurd c57 (by omega)) (fun c57 => ?_)
    clear hz56
    refine h_aload_n (pc' := 8) rfl rfl rfl ?_
    refine h_getI (pc' := 11) (v := σ2 98 17) rfl rfl rfl rfl rfl rfl (fun z58 hz58 => ?_)
    have tz58 := tf_98_17 hI2
    refine h_iconst (pc' := 12) (x := (Int32.ofInt 2)) rfl rfl rfl ?_
    refine h_ceq (tg := 20) (pc' := 15) rfl rfl rfl hz58 ci_2 (fun c59 => absurd c59 (by omega)) (fun c59 => ?_)
    clear hz58
    refine h_aload_n (pc' := 16) rfl rfl rfl ?_
    refine h_iconst (pc' := 17) (x := (Int32.ofInt 2)) rfl rfl rfl ?_
    refine h_call (sp := false) (pc' := 20) (M := [(0, .ref 98), (1, .int (Int32.ofInt 2))]) rfl rfl rfl rfl rfl rfl rfl rfl ?_
    refine h_aload_n (pc' := 1) rfl rfl rfl ?_
    refine h_getI (pc' := 4) (v := σ2 98 13) rfl rfl rfl rfl rfl rfl (fun z60 hz60 => ?_)
    refine h_zne (tg := 20) (pc' := 7) rfl rfl rfl hz60 (fun c61 => absurd c61 (by omega)) (fun c61 => ?_)
    clear hz60
    refine h_aload_n (pc' := 8) rfl rfl rfl ?_
    refine h_iload_n (pc' := 9) rfl rfl rfl ?_
    refine h_put (pc' := 12) rfl rfl rfl rfl rfl rfl ci_2 rfl (h_fgt (E := fun s => s 98 15 = σ2 98 15 ∧ s 98 16 = σ2 98 16 ∧ s 98 17 = σ2 98 17 ∧ s 98 18 = σ2 98 18 ∧ s 98 13 = 2 ∧ s 98 14 = σ2 98 14) _ (if_98_13 hI2 (by omega)) (F2.up rfl) ⟨rfl, rfl, rfl, rfl, rfl, rfl⟩ (fun s62 Is62 Fs62 (es62 : s62 98 15 = σ2 98 15 ∧ s62 98 16 = σ2 98 16 ∧ s62 98 17 = σ2 98 17 ∧ s62 98 18 = σ2 98 18 ∧ s62 98 13 = 2 ∧ s62 98 14 = σ2 98 14) => ?_))
    refine h_aload_n (pc' := 13) rfl rfl rfl ?_
    refine h_aload_n (pc' := 14) rfl rfl rfl ?_
    refine h_getI (pc' := 17) (v := σ2 98 16) rfl rfl rfl rfl rfl es62.2.1 (fun z63 hz63 => ?_)
    have tz63 := tf_98_16 hI2
    refine h_put (pc' := 20) rfl rfl rfl rfl rfl rfl hz63 rfl (h_fgt (E := fun s => s 98 15 = σ2 98 15 ∧ s 98 16 = σ2 98 16 ∧ s 98 17 = σ2 98 17 ∧ s 98 18 = σ2 98 18 ∧ s 98 13 = 2 ∧ s 98 14 = (σ2 98 16)) _ (if_98_14 Is62 (h_rgv hz63)) (Fs62.up rfl) ⟨es62.1, es62.2.1, es62.2.2.1, es62.2.2.2.1, es62.2.2.2.2.1, rfl⟩ (fun s64 Is64 Fs64 (es64 : s64 98 15 = σ2 98 15 ∧ s64 98 16 = σ2 98 16 ∧ s64 98 17 = σ2 98 17 ∧ s64 98 18 = σ2 98 18 ∧ s64 98 13 = 2 ∧ s64 98 14 = (σ2 98 16)) => ?_))
    clear es62
    refine h_vret rfl rfl (h_Kn ?_)
    refine h_aload_n (pc' := 21) rfl rfl rfl ?_
    refine h_getI (pc' := 24) (v := 2) rfl rfl rfl rfl rfl es64.2.2.2.2.1 (fun z65 hz65 => ?_)
    refine h_zne (tg := 47) (pc' := 27) rfl rfl rfl hz65 (fun c66 => ?_) (fun c66 => absurd c66 (by omega))
    clear hz65
    refine h_aload_n (pc' := 48) rfl rfl rfl ?_
    refine h_getI (pc' := 51) (v := 2) rfl rfl rfl rfl rfl es64.2.2.2.2.1 (fun z67 hz67 => ?_)
    refine h_zne (tg := 61) (pc' := 54) rfl rfl rfl hz67 (fun c68 => ?_) (fun c68 => absurd c68 (by omega))
    clear hz67
    refine h_iload_n (pc' := 62) rfl rfl rfl ?_
    refine h_istore_n (pc' := 63) (M := [(3, .int (Int32.ofInt 0)), (0, .ref 98), (1, .int (Int32.ofInt 0)), (2, .int y2)]) rfl rfl rfl rfl ?_
    refine h_aload_n (pc' := 64) rfl rfl rfl ?_
    refine d_pcall (g_inj ns) (m1 := 54) (pc1' := 72) (M1 := [(0, .ref 63)]) (rest1 := []) (m2 := 148) (pc2' := 67) (M2 := [(0, .ref 98)]) (rest2 := []) ⟨false, _, _, _, _, _, _, rfl, rfl, rfl, rfl, rfl, rfl, rfl⟩ ⟨false, _, _, _, _, _, _, rfl, rfl, rfl, rfl, rfl, rfl, rfl⟩ hRw55 ?_
    refine pp_step Is51 Is64 (hTL.fr (Fs51.mono rfl) (Fs64.mono rfl)) (by omega) (by omega) (by omega) (by omega) (Or.inl ⟨by omega, by omega, by omega⟩) (fun sq69 tq69 Isq69 Itq69 Gsq69 Gtq69 yq69_0 yq69_1 yq69_2 yq69_3 yq69_4 pcq69 memq69 hRq69 => ?_)
    have Fsq69 := (Gsq69.mono (B := k_lx) rfl).tr Fs51
    have Ftq69 := (Gtq69.mono (B := k_lm) rfl).tr Fs64
    have esq69_6 : sq69 64 1 = σ1 64 1 := (Gsq69 64 1 rfl).trans es51.2.2.2.2.2.2
    rcases pcq69 with pcq69 | pcq69 | pcq69 | pcq69 | pcq69
    · show h_T g_P (g_Y ns) 149 67 [(3, .int (Int32.ofInt 0)), (0, .ref 98), (1, .int (Int32.ofInt 0)), (2, .int y2)] [] tq69 _
      clear hz47 hz63
      refine h_iload_n (pc' := 68) rfl rfl rfl ?_
      refine d_toL (g_inj ns) hlw55 hRq69 (fun lvw70 memw70 hlw70 hRw70 => ?_)
      show h_T g_P (g_Y ns) 58 72 [(2, .int z54), (0, .ref 63), (1, .int x1)] [] sq69 _
      refine h_iload_n (pc' := 73) rfl rfl rfl ?_
      refine h_iret rfl rfl (d_endL hlw70 hRw70 ?_)
      show h_T g_P (g_Y ns) 149 68 [(3, .int (Int32.ofInt 0)), (0, .ref 98), (1, .int (Int32.ofInt 0)), (2, .int y2)] [.int (Int32.ofInt 0)] tq69 _
      exact h_iret rfl rfl (d_cs.nil (kk _ _ hz54 _ _ ci_0 _ _ Isq69 Itq69 Fsq69 Ftq69 (by omega) (by omega) (by omega) (by omega) (by omega) (Or.inl ⟨by omega, by omega, by omega, by omega, by omega⟩)))
    · exfalso; omega
    · exfalso; omega
    · exfalso; omega
    · exfalso; omega
  · show h_T g_P (g_Y ns) 58 0 [(0, .ref 63), (1, .int x1)] [] σ1 _
    refine h_aload_n (pc' := 1) rfl rfl rfl ?_
    refine h_getI (pc' := 4) (v := σ1 63 2) rfl rfl rfl rfl rfl rfl (fun z71 hz71 => ?_)
    have tz71 := tf_63_2 hI1
    refine h_zne (tg := 30) (pc' := 7) rfl rfl rfl hz71 (fun c72 => absurd c72 (by omega)) (fun c72 => ?_)
    clear hz71
    refine h_aload_n (pc' := 8) rfl rfl rfl ?_
    refine h_getR (pc' := 11) rfl rfl rfl rfl rfl ?_
    refine h_getI (pc' := 14) (v := σ1 64 3) rfl rfl rfl rfl rfl rfl (fun z73 hz73 => ?_)
    have tz73 := tf_64_3 hI1
    refine h_iconst (pc' := 15) (x := (Int32.ofInt 2)) rfl rfl rfl ?_
    refine h_ceq (tg := 30) (pc' := 18) rfl rfl rfl hz73 ci_2 (fun c74 => ?_) (fun c74 => absurd c74 (by omega))
    clear hz73
    refine h_aload_n (pc' := 31) rfl rfl rfl ?_
    refine h_getI (pc' := 34) (v := σ1 63 2) rfl rfl rfl rfl rfl rfl (fun z75 hz75 => ?_)
    refine h_zne (tg := 60) (pc' := 37) rfl rfl rfl hz75 (fun c76 => absurd c76 (by omega)) (fun c76 => ?_)
    clear hz75
    refine h_aload_n (pc' := 38) rfl rfl rfl ?_
    refine h_getR (pc' := 41) rfl rfl rfl rfl rfl ?_
    refine h_getI (pc' := 44) (v := σ1 64 5) rfl rfl rfl rfl rfl rfl (fun z77 hz77 => ?_)
    have tz77 := tf_64_5 hI1
    refine h_iload_n (pc' := 45) rfl rfl rfl ?_
    refine h_cle (tg := 60) (pc' := 48) rfl rfl rfl hz77 hx1 (fun c78 => ?_) (fun c78 => ?_)
    · clear hz77
      refine h_aload_n (pc' := 61) rfl rfl rfl ?_
      refine h_getR (pc' := 64) rfl rfl rfl rfl rfl ?_
      refine h_getI (pc' := 67) (v := σ1 64 5) rfl rfl rfl rfl rfl rfl (fun z79 hz79 => ?_)
      refine h_istore_n (pc' := 68) (M := [(2, .int z79), (0, .ref 63), (1, .int x1)]) rfl rfl rfl rfl ?_
      refine h_aload_n (pc' := 69) rfl rfl rfl ?_
      refine d_toM (g_inj ns) hl2 hR2 (fun lvw80 memw80 hlw80 hRw80 => ?_)
      show h_T g_P (g_Y ns) 149 0 [(0, .ref 98), (1, .int (Int32.ofInt 0)), (2, .int y2)] [] σ2 _
      refine h_aload_n (pc' := 1) rfl rfl rfl ?_
      refine h_getI (pc' := 4) (v := σ2 98 13) rfl rfl rfl rfl rfl rfl (fun z81 hz81 => ?_)
      have tz81 := tf_98_13 hI2
      refine h_zne (tg := 20) (pc' := 7) rfl rfl rfl hz81 (fun c82 => absurd c82 (by omega)) (fun c82 => ?_)
      clear hz81
      refine h_aload_n (pc' := 8) rfl rfl rfl ?_
      refine h_getI (pc' := 11) (v := σ2 98 17) rfl rfl rfl rfl rfl rfl (fun z83 hz83 => ?_)
      have tz83 := tf_98_17 hI2
      refine h_iconst (pc' := 12) (x := (Int32.ofInt 2)) rfl rfl rfl ?_
      refine h_ceq (tg := 20) (pc' := 15) rfl rfl rfl hz83 ci_2 (fun c84 => ?_) (fun c84 => absurd c84 (by omega))
      clear hz83
      refine h_aload_n (pc' := 21) rfl rfl rfl ?_
      refine h_getI (pc' := 24) (v := σ2 98 13) rfl rfl rfl rfl rfl rfl (fun z85 hz85 => ?_)
      refine h_zne (tg := 47) (pc' := 27) rfl rfl rfl hz85 (fun c86 => absurd c86 (by omega)) (fun c86 => ?_)
      clear hz85
      refine h_aload_n (pc' := 28) rfl rfl rfl ?_
      refine h_getI (pc' := 31) (v := σ2 98 18) rfl rfl rfl rfl rfl rfl (fun z87 hz87 => ?_)
      have tz87 := tf_98_18 hI2
      refine h_i2l (pc' := 32) rfl rfl hz87 (fun z88 hz88 => ?_)
      clear hz87
      refine h_iload_n (pc' := 33) rfl rfl rfl ?_
      refine h_i2l (pc' := 34) rfl rfl ci_0 (fun z89 hz89 => ?_)
      refine h_iload_n (pc' := 35) rfl rfl rfl ?_
      refine h_i2l (pc' := 36) rfl rfl hy2 (fun z90 hz90 => ?_)
      refine h_calls (pc' := 39) (M := [(0, .long z88), (2, .long z89), (4, .long z90)]) rfl rfl rfl rfl rfl rfl ?_
      refine h_lload_n (pc' := 1) rfl rfl rfl ?_
      refine h_lload_n (pc' := 2) rfl rfl rfl ?_
      refine h_lcmp (pc' := 3) rfl rfl hz88 hz89 (fun z91 hz91 => ?_)
      refine h_zlt (tg := 17) (pc' := 6) rfl rfl rfl rfl (fun c92 => absurd c92 (by omega)) (fun c92 => ?_)
      replace c92 := (h_lcr hz91).2.1 c92
      clear hz91
      refine h_lload_n (pc' := 7) rfl rfl rfl ?_
      refine h_lload (pc' := 9) rfl rfl rfl ?_
      refine h_lcmp (pc' := 10) rfl rfl hz88 hz90 (fun z93 hz93 => ?_)
      refine h_zgt (tg := 17) (pc' := 13) rfl rfl rfl rfl (fun c94 => ?_) (fun c94 => ?_)
      · replace c94 := (h_lcr hz93).2.2.2.1 c94
        clear hz93
        refine h_iconst (pc' := 18) (x := (Int32.ofInt 0)) rfl rfl rfl ?_
        refine h_zret rfl rfl ci_0 (by omega) (h_Kv ?_)
        clear hz88 hz89 hz90
        refine h_zne (tg := 47) (pc' := 42) rfl rfl rfl ci_0 (fun c95 => absurd c95 (by omega)) (fun c95 => ?_)
        refine h_aload_n (pc' := 43) rfl rfl rfl ?_
        refine h_iconst (pc' := 44) (x := (Int32.ofInt 3)) rfl rfl rfl ?_
        refine h_call (sp := false) (pc' := 47) (M := [(0, .ref 98), (1, .int (Int32.ofInt 3))]) rfl rfl rfl rfl rfl rfl rfl rfl ?_
        refine h_aload_n (pc' := 1) rfl rfl rfl ?_
        refine h_getI (pc' := 4) (v := σ2 98 13) rfl rfl rfl rfl rfl rfl (fun z96 hz96 => ?_)
        refine h_zne (tg := 20) (pc' := 7) rfl rfl rfl hz96 (fun c97 => absurd c97 (by omega)) (fun c97 => ?_)
        clear hz96
        refine h_aload_n (pc' := 8) rfl rfl rfl ?_
        refine h_iload_n (pc' := 9) rfl rfl rfl ?_
        refine h_put (pc' := 12) rfl rfl rfl rfl rfl rfl ci_3 rfl (h_fgt (E := fun s => s 98 15 = σ2 98 15 ∧ s 98 16 = σ2 98 16 ∧ s 98 17 = σ2 98 17 ∧ s 98 18 = σ2 98 18 ∧ s 98 13 = 3 ∧ s 98 14 = σ2 98 14) _ (if_98_13 hI2 (by omega)) (F2.up rfl) ⟨rfl, rfl, rfl, rfl, rfl, rfl⟩ (fun s98 Is98 Fs98 (es98 : s98 98 15 = σ2 98 15 ∧ s98 98 16 = σ2 98 16 ∧ s98 98 17 = σ2 98 17 ∧ s98 98 18 = σ2 98 18 ∧ s98 98 13 = 3 ∧ s98 98 14 = σ2 98 14) => ?_))
        refine h_aload_n (pc' := 13) rfl rfl rfl ?_
        refine h_aload_n (pc' := 14) rfl rfl rfl ?_
        refine h_getI (pc' := 17) (v := σ2 98 16) rfl rfl rfl rfl rfl es98.2.1 (fun z99 hz99 => ?_)
        have tz99 := tf_98_16 hI2
        refine h_put (pc' := 20) rfl rfl rfl rfl rfl rfl hz99 rfl (h_fgt (E := fun s => s 98 15 = σ2 98 15 ∧ s 98 16 = σ2 98 16 ∧ s 98 17 = σ2 98 17 ∧ s 98 18 = σ2 98 18 ∧ s 98 13 = 3 ∧ s 98 14 = (σ2 98 16)) _ (if_98_14 Is98 (h_rgv hz99)) (Fs98.up rfl) ⟨es98.1, es98.2.1, es98.2.2.1, es98.2.2.2.1, es98.2.2.2.2.1, rfl⟩ (fun s100 Is100 Fs100 (es100 : s100 98 15 = σ2 98 15 ∧ s100 98 16 = σ2 98 16 ∧ s100 98 17 = σ2 98 17 ∧ s100 98 18 = σ2 98 18 ∧ s100 98 13 = 3 ∧ s100 98 14 = (σ2 98 16)) => ?_))
        clear es98
        refine h_vret rfl rfl (h_Kn ?_)
        refine h_aload_n (pc' := 48) rfl rfl rfl ?_
        refine h_getI (pc' := 51) (v := 3) rfl rfl rfl rfl rfl es100.2.2.2.2.1 (fun z101 hz101 => ?_)
        refine h_zne (tg := 61) (pc' := 54) rfl rfl rfl hz101 (fun c102 => ?_) (fun c102 => absurd c102 (by omega))
        clear hz101
        refine h_iload_n (pc' := 62) rfl rfl rfl ?_
        refine h_istore_n (pc' := 63) (M := [(3, .int (Int32.ofInt 0)), (0, .ref 98), (1, .int (Int32.ofInt 0)), (2, .int y2)]) rfl rfl rfl rfl ?_
        refine h_aload_n (pc' := 64) rfl rfl rfl ?_
        exfalso
        omega
      · replace c94 := (h_lcr hz93).2.2.1 c94
        clear hz93
        refine h_iconst (pc' := 14) (x := (Int32.ofInt 1)) rfl rfl rfl ?_
        refine h_goto (pc' := 18) rfl rfl ?_
        refine h_zret rfl rfl ci_1 (by omega) (h_Kv ?_)
        clear hz88 hz89 hz90
        refine h_zne (tg := 47) (pc' := 42) rfl rfl rfl ci_1 (fun c103 => ?_) (fun c103 => absurd c103 (by omega))
        refine h_aload_n (pc' := 48) rfl rfl rfl ?_
        refine h_getI (pc' := 51) (v := σ2 98 13) rfl rfl rfl rfl rfl rfl (fun z104 hz104 => ?_)
        refine h_zne (tg := 61) (pc' := 54) rfl rfl rfl hz104 (fun c105 => absurd c105 (by omega)) (fun c105 => ?_)
        clear hz104
        refine h_aload_n (pc' := 55) rfl rfl rfl ?_
        refine h_getI (pc' := 58) (v := σ2 98 18) rfl rfl rfl rfl rfl rfl (fun z106 hz106 => ?_)
        refine h_goto (pc' := 62) rfl rfl ?_
        refine h_istore_n (pc' := 63) (M := [(3, .int z106), (0, .ref 98), (1, .int (Int32.ofInt 0)), (2, .int y2)]) rfl rfl rfl rfl ?_
        refine h_aload_n (pc' := 64) rfl rfl rfl ?_
        refine d_pcall (g_inj ns) (m1 := 54) (pc1' := 72) (M1 := [(0, .ref 63)]) (rest1 := []) (m2 := 148) (pc2' := 67) (M2 := [(0, .ref 98)]) (rest2 := []) ⟨false, _, _, _, _, _, _, rfl, rfl, rfl, rfl, rfl, rfl, rfl⟩ ⟨false, _, _, _, _, _, _, rfl, rfl, rfl, rfl, rfl, rfl, rfl⟩ hRw80 ?_
        refine pp_step hI1 hI2 (hTL.fr (F1.mono rfl) (F2.mono rfl)) (by omega) (by omega) (by omega) (by omega) (Or.inr ⟨by omega, by omega⟩) (fun sq107 tq107 Isq107 Itq107 Gsq107 Gtq107 yq107_0 yq107_1 yq107_2 yq107_3 yq107_4 pcq107 memq107 hRq107 => ?_)
        have Fsq107 := (Gsq107.mono (B := k_lx) rfl).tr F1
        have Ftq107 := (Gtq107.mono (B := k_lm) rfl).tr F2
        have esq107_6 : sq107 64 1 = σ1 64 1 := (Gsq107 64 1 rfl).trans rfl
        rcases pcq107 with pcq107 | pcq107 | pcq107 | pcq107 | pcq107
        · show h_T g_P (g_Y ns) 149 67 [(3, .int z106), (0, .ref 98), (1, .int (Int32.ofInt 0)), (2, .int y2)] [] tq107 _
          refine h_iload_n (pc' := 68) rfl rfl rfl ?_
          refine d_toL (g_inj ns) hlw80 hRq107 (fun lvw108 memw108 hlw108 hRw108 => ?_)
          show h_T g_P (g_Y ns) 58 72 [(2, .int z79), (0, .ref 63), (1, .int x1)] [] sq107 _
          refine h_iload_n (pc' := 73) rfl rfl rfl ?_
          refine h_iret rfl rfl (d_endL hlw108 hRw108 ?_)
          show h_T g_P (g_Y ns) 149 68 [(3, .int z106), (0, .ref 98), (1, .int (Int32.ofInt 0)), (2, .int y2)] [.int z106] tq107 _
          exact h_iret rfl rfl (d_cs.nil (kk _ _ hz79 _ _ hz106 _ _ Isq107 Itq107 Fsq107 Ftq107 (by omega) (by omega) (by omega) (by omega) (by omega) (Or.inl ⟨by omega, by omega, by omega, by omega, by omega⟩)))
        · show h_T g_P (g_Y ns) 149 67 [(3, .int z106), (0, .ref 98), (1, .int (Int32.ofInt 0)), (2, .int y2)] [] tq107 _
          refine h_iload_n (pc' := 68) rfl rfl rfl ?_
          refine d_toL (g_inj ns) hlw80 hRq107 (fun lvw109 memw109 hlw109 hRw109 => ?_)
          show h_T g_P (g_Y ns) 58 72 [(2, .int z79), (0, .ref 63), (1, .int x1)] [] sq107 _
          refine h_iload_n (pc' := 73) rfl rfl rfl ?_
          refine h_iret rfl rfl (d_endL hlw109 hRw109 ?_)
          show h_T g_P (g_Y ns) 149 68 [(3, .int z106), (0, .ref 98), (1, .int (Int32.ofInt 0)), (2, .int y2)] [.int z106] tq107 _
          exact h_iret rfl rfl (d_cs.nil (kk _ _ hz79 _ _ hz106 _ _ Isq107 Itq107 Fsq107 Ftq107 (by omega) (by omega) (by omega) (by omega) (by omega) (Or.inr (Or.inl ⟨by omega, by omega, by omega, by omega, by omega, by omega, by omega, by omega, by omega, by omega⟩))))
        · show h_T g_P (g_Y ns) 149 67 [(3, .int z106), (0, .ref 98), (1, .int (Int32.ofInt 0)), (2, .int y2)] [] tq107 _
          refine h_iload_n (pc' := 68) rfl rfl rfl ?_
          refine d_toL (g_inj ns) hlw80 hRq107 (fun lvw110 memw110 hlw110 hRw110 => ?_)
          show h_T g_P (g_Y ns) 58 72 [(2, .int z79), (0, .ref 63), (1, .int x1)] [] sq107 _
          refine h_iload_n (pc' := 73) rfl rfl rfl ?_
          refine h_iret rfl rfl (d_endL hlw110 hRw110 ?_)
          show h_T g_P (g_Y ns) 149 68 [(3, .int z106), (0, .ref 98), (1, .int (Int32.ofInt 0)), (2, .int y2)] [.int z106] tq107 _
          exact h_iret rfl rfl (d_cs.nil (kk _ _ hz79 _ _ hz106 _ _ Isq107 Itq107 Fsq107 Ftq107 (by omega) (by omega) (by omega) (by omega) (by omega) (Or.inr (Or.inr (Or.inl ⟨by omega, by omega, by omega, by omega, by omega, by omega, by omega, by omega, by omega, by omega, by omega⟩)))))
        · show h_T g_P (g_Y ns) 149 67 [(3, .int z106), (0, .ref 98), (1, .int (Int32.ofInt 0)), (2, .int y2)] [] tq107 _
          refine h_iload_n (pc' := 68) rfl rfl rfl ?_
          refine d_toL (g_inj ns) hlw80 hRq107 (fun lvw111 memw111 hlw111 hRw111 => ?_)
          show h_T g_P (g_Y ns) 58 72 [(2, .int z79), (0, .ref 63), (1, .int x1)] [] sq107 _
          refine h_iload_n (pc' := 73) rfl rfl rfl ?_
          refine h_iret rfl rfl (d_endL hlw111 hRw111 ?_)
          show h_T g_P (g_Y ns) 149 68 [(3, .int z106), (0, .ref 98), (1, .int (Int32.ofInt 0)), (2, .int y2)] [.int z106] tq107 _
          exact h_iret rfl rfl (d_cs.nil (kk _ _ hz79 _ _ hz106 _ _ Isq107 Itq107 Fsq107 Ftq107 (by omega) (by omega) (by omega) (by omega) (by omega) (Or.inr (Or.inr (Or.inr (Or.inl ⟨by omega, by omega, by omega, by omega, by omega, by omega, by omega, by omega, by omega, by omega, by omega, by omega, by omega, by omega⟩))))))
        · show h_T g_P (g_Y ns) 149 67 [(3, .int z106), (0, .ref 98), (1, .int (Int32.ofInt 0)), (2, .int y2)] [] tq107 _
          refine h_iload_n (pc' := 68) rfl rfl rfl ?_
          refine d_toL (g_inj ns) hlw80 hRq107 (fun lvw112 memw112 hlw112 hRw112 => ?_)
          show h_T g_P (g_Y ns) 58 72 [(2, .int z79), (0, .ref 63), (1, .int x1)] [] sq107 _
          refine h_iload_n (pc' := 73) rfl rfl rfl ?_
          refine h_iret rfl rfl (d_endL hlw112 hRw112 ?_)
          show h_T g_P (g_Y ns) 149 68 [(3, .int z106), (0, .ref 98), (1, .int (Int32.ofInt 0)), (2, .int y2)] [.int z106] tq107 _
          exact h_iret rfl rfl (d_cs.nil (kk _ _ hz79 _ _ hz106 _ _ Isq107 Itq107 Fsq107 Ftq107 (by omega) (by omega) (by omega) (by omega) (by omega) (Or.inr (Or.inr (Or.inr (Or.inr ⟨by omega, by omega, by omega, by omega, by omega, by omega, by omega, by omega, by omega, by omega, by omega⟩))))))
    · clear hz77
      refine h_aload_n (pc' := 49) rfl rfl rfl ?_
      refine h_iconst (pc' := 50) (x := (Int32.ofInt 3)) rfl rfl rfl ?_
      refine h_aload_n (pc' := 51) rfl rfl rfl ?_
      refine h_getR (pc' := 54) rfl rfl rfl rfl rfl ?_
      refine h_getI (pc' := 57) (v := σ1 64 4) rfl rfl rfl rfl rfl rfl (fun z113 hz113 => ?_)
      have tz113 := tf_64_4 hI1
      refine h_call (sp := false) (pc' := 60) (M := [(0, .ref 63), (1, .int (Int32.ofInt 3)), (2, .int z113)]) rfl rfl rfl rfl rfl rfl rfl rfl ?_
      refine h_aload_n (pc' := 1) rfl rfl rfl ?_
      refine h_getI (pc' := 4) (v := σ1 63 2) rfl rfl rfl rfl rfl rfl (fun z114 hz114 => ?_)
      refine h_zne (tg := 17) (pc' := 7) rfl rfl rfl hz114 (fun c115 => absurd c115 (by omega)) (fun c115 => ?_)
      clear hz114
      refine h_aload_n (pc' := 8) rfl rfl rfl ?_
      refine h_iload_n (pc' := 9) rfl rfl rfl ?_
      refine h_put (pc' := 12) rfl rfl rfl rfl rfl rfl ci_3 rfl (h_fgt (E := fun s => s 64 2 = σ1 64 2 ∧ s 64 4 = σ1 64 4 ∧ s 64 3 = σ1 64 3 ∧ s 64 5 = σ1 64 5 ∧ s 63 2 = 3 ∧ s 63 3 = σ1 63 3 ∧ s 64 1 = σ1 64 1) _ (if_63_2 hI1 (by omega)) (F1.up rfl) ⟨rfl, rfl, rfl, rfl, rfl, rfl, rfl⟩ (fun s116 Is116 Fs116 (es116 : s116 64 2 = σ1 64 2 ∧ s116 64 4 = σ1 64 4 ∧ s116 64 3 = σ1 64 3 ∧ s116 64 5 = σ1 64 5 ∧ s116 63 2 = 3 ∧ s116 63 3 = σ1 63 3 ∧ s116 64 1 = σ1 64 1) => ?_))
      refine h_aload_n (pc' := 13) rfl rfl rfl ?_
      refine h_iload_n (pc' := 14) rfl rfl rfl ?_
      refine h_put (pc' := 17) rfl rfl rfl rfl rfl rfl hz113 rfl (h_fgt (E := fun s => s 64 2 = σ1 64 2 ∧ s 64 4 = σ1 64 4 ∧ s 64 3 = σ1 64 3 ∧ s 64 5 = σ1 64 5 ∧ s 63 2 = 3 ∧ s 63 3 = (σ1 64 4) ∧ s 64 1 = σ1 64 1) _ (if_63_3 Is116 (h_rgv hz113)) (Fs116.up rfl) ⟨es116.1, es116.2.1, es116.2.2.1, es116.2.2.2.1, es116.2.2.2.2.1, rfl, es116.2.2.2.2.2.2⟩ (fun s117 Is117 Fs117 (es117 : s117 64 2 = σ1 64 2 ∧ s117 64 4 = σ1 64 4 ∧ s117 64 3 = σ1 64 3 ∧ s117 64 5 = σ1 64 5 ∧ s117 63 2 = 3 ∧ s117 63 3 = (σ1 64 4) ∧ s117 64 1 = σ1 64 1) => ?_))
      clear es116
      refine h_vret rfl rfl (h_Kn ?_)
      refine h_aload_n (pc' := 61) rfl rfl rfl ?_
      refine h_getR (pc' := 64) rfl rfl rfl rfl rfl ?_
      refine h_getI (pc' := 67) (v := σ1 64 5) rfl rfl rfl rfl rfl es117.2.2.2.1 (fun z118 hz118 => ?_)
      refine h_istore_n (pc' := 68) (M := [(2, .int z118), (0, .ref 63), (1, .int x1)]) rfl rfl rfl rfl ?_
      refine h_aload_n (pc' := 69) rfl rfl rfl ?_
      refine d_toM (g_inj ns) hl2 hR2 (fun lvw119 memw119 hlw119 hRw119 => ?_)
      show h_T g_P (g_Y ns) 149 0 [(0, .ref 98), (1, .int (Int32.ofInt 0)), (2, .int y2)] [] σ2 _
      refine h_aload_n (pc' := 1) rfl rfl rfl ?_
      refine h_getI (pc' := 4) (v := σ2 98 13) rfl rfl rfl rfl rfl rfl (fun z120 hz120 => ?_)
      have tz120 := tf_98_13 hI2
      refine h_zne (tg := 20) (pc' := 7) rfl rfl rfl hz120 (fun c121 => absurd c121 (by omega)) (fun c121 => ?_)
      clear hz120
      refine h_aload_n (pc' := 8) rfl rfl rfl ?_
      refine h_getI (pc' := 11) (v := σ2 98 17) rfl rfl rfl rfl rfl rfl (fun z122 hz122 => ?_)
      have tz122 := tf_98_17 hI2
      refine h_iconst (pc' := 12) (x := (Int32.ofInt 2)) rfl rfl rfl ?_
      refine h_ceq (tg := 20) (pc' := 15) rfl rfl rfl hz122 ci_2 (fun c123 => ?_) (fun c123 => absurd c123 (by omega))
      clear hz122
      refine h_aload_n (pc' := 21) rfl rfl rfl ?_
      refine h_getI (pc' := 24) (v := σ2 98 13) rfl rfl rfl rfl rfl rfl (fun z124 hz124 => ?_)
      refine h_zne (tg := 47) (pc' := 27) rfl rfl rfl hz124 (fun c125 => absurd c125 (by omega)) (fun c125 => ?_)
      clear hz124
      refine h_aload_n (pc' := 28) rfl rfl rfl ?_
      refine h_getI (pc' := 31) (v := σ2 98 18) rfl rfl rfl rfl rfl rfl (fun z126 hz126 => ?_)
      have tz126 := tf_98_18 hI2
      refine h_i2l (pc' := 32) rfl rfl hz126 (fun z127 hz127 => ?_)
      clear hz126
      refine h_iload_n (pc' := 33) rfl rfl rfl ?_
      refine h_i2l (pc' := 34) rfl rfl ci_0 (fun z128 hz128 => ?_)
      refine h_iload_n (pc' := 35) rfl rfl rfl ?_
      refine h_i2l (pc' := 36) rfl rfl hy2 (fun z129 hz129 => ?_)
      refine h_calls (pc' := 39) (M := [(0, .long z127), (2, .long z128), (4, .long z129)]) rfl rfl rfl rfl rfl rfl ?_
      refine h_lload_n (pc' := 1) rfl rfl rfl ?_
      refine h_lload_n (pc' := 2) rfl rfl rfl ?_
      refine h_lcmp (pc' := 3) rfl rfl hz127 hz128 (fun z130 hz130 => ?_)
      refine h_zlt (tg := 17) (pc' := 6) rfl rfl rfl rfl (fun c131 => absurd c131 (by omega)) (fun c131 => ?_)
      replace c131 := (h_lcr hz130).2.1 c131
      clear hz130
      refine h_lload_n (pc' := 7) rfl rfl rfl ?_
      refine h_lload (pc' := 9) rfl rfl rfl ?_
      refine h_lcmp (pc' := 10) rfl rfl hz127 hz129 (fun z132 hz132 => ?_)
      refine h_zgt (tg := 17) (pc' := 13) rfl rfl rfl rfl (fun c133 => ?_) (fun c133 => ?_)
      · replace c133 := (h_lcr hz132).2.2.2.1 c133
        clear hz132
        refine h_iconst (pc' := 18) (x := (Int32.ofInt 0)) rfl rfl rfl ?_
        refine h_zret rfl rfl ci_0 (by omega) (h_Kv ?_)
        clear hz127 hz128 hz129
        refine h_zne (tg := 47) (pc' := 42) rfl rfl rfl ci_0 (fun c134 => absurd c134 (by omega)) (fun c134 => ?_)
        refine h_aload_n (pc' := 43) rfl rfl rfl ?_
        refine h_iconst (pc' := 44) (x := (Int32.ofInt 3)) rfl rfl rfl ?_
        refine h_call (sp := false) (pc' := 47) (M := [(0, .ref 98), (1, .int (Int32.ofInt 3))]) rfl rfl rfl rfl rfl rfl rfl rfl ?_
        refine h_aload_n (pc' := 1) rfl rfl rfl ?_
        refine h_getI (pc' := 4) (v := σ2 98 13) rfl rfl rfl rfl rfl rfl (fun z135 hz135 => ?_)
        refine h_zne (tg := 20) (pc' := 7) rfl rfl rfl hz135 (fun c136 => absurd c136 (by omega)) (fun c136 => ?_)
        clear hz135
        refine h_aload_n (pc' := 8) rfl rfl rfl ?_
        refine h_iload_n (pc' := 9) rfl rfl rfl ?_
        refine h_put (pc' := 12) rfl rfl rfl rfl rfl rfl ci_3 rfl (h_fgt (E := fun s => s 98 15 = σ2 98 15 ∧ s 98 16 = σ2 98 16 ∧ s 98 17 = σ2 98 17 ∧ s 98 18 = σ2 98 18 ∧ s 98 13 = 3 ∧ s 98 14 = σ2 98 14) _ (if_98_13 hI2 (by omega)) (F2.up rfl) ⟨rfl, rfl, rfl, rfl, rfl, rfl⟩ (fun s137 Is137 Fs137 (es137 : s137 98 15 = σ2 98 15 ∧ s137 98 16 = σ2 98 16 ∧ s137 98 17 = σ2 98 17 ∧ s137 98 18 = σ2 98 18 ∧ s137 98 13 = 3 ∧ s137 98 14 = σ2 98 14) => ?_))
        refine h_aload_n (pc' := 13) rfl rfl rfl ?_
        refine h_aload_n (pc' := 14) rfl rfl rfl ?_
        refine h_getI (pc' := 17) (v := σ2 98 16) rfl rfl rfl rfl rfl es137.2.1 (fun z138 hz138 => ?_)
        have tz138 := tf_98_16 hI2
        refine h_put (pc' := 20) rfl rfl rfl rfl rfl rfl hz138 rfl (h_fgt (E := fun s => s 98 15 = σ2 98 15 ∧ s 98 16 = σ2 98 16 ∧ s 98 17 = σ2 98 17 ∧ s 98 18 = σ2 98 18 ∧ s 98 13 = 3 ∧ s 98 14 = (σ2 98 16)) _ (if_98_14 Is137 (h_rgv hz138)) (Fs137.up rfl) ⟨es137.1, es137.2.1, es137.2.2.1, es137.2.2.2.1, es137.2.2.2.2.1, rfl⟩ (fun s139 Is139 Fs139 (es139 : s139 98 15 = σ2 98 15 ∧ s139 98 16 = σ2 98 16 ∧ s139 98 17 = σ2 98 17 ∧ s139 98 18 = σ2 98 18 ∧ s139 98 13 = 3 ∧ s139 98 14 = (σ2 98 16)) => ?_))
        clear es137
        refine h_vret rfl rfl (h_Kn ?_)
        refine h_aload_n (pc' := 48) rfl rfl rfl ?_
        refine h_getI (pc' := 51) (v := 3) rfl rfl rfl rfl rfl es139.2.2.2.2.1 (fun z140 hz140 => ?_)
        refine h_zne (tg := 61) (pc' := 54) rfl rfl rfl hz140 (fun c141 => ?_) (fun c141 => absurd c141 (by omega))
        clear hz140
        refine h_iload_n (pc' := 62) rfl rfl rfl ?_
        refine h_istore_n (pc' := 63) (M := [(3, .int (Int32.ofInt 0)), (0, .ref 98), (1, .int (Int32.ofInt 0)), (2, .int y2)]) rfl rfl rfl rfl ?_
        refine h_aload_n (pc' := 64) rfl rfl rfl ?_
        refine d_pcall (g_inj ns) (m1 := 54) (pc1' := 72) (M1 := [(0, .ref 63)]) (rest1 := []) (m2 := 148) (pc2' := 67) (M2 := [(0, .ref 98)]) (rest2 := []) ⟨false, _, _, _, _, _, _, rfl, rfl, rfl, rfl, rfl, rfl, rfl⟩ ⟨false, _, _, _, _, _, _, rfl, rfl, rfl, rfl, rfl, rfl, rfl⟩ hRw119 ?_
        refine pp_step Is117 Is139 (hTL.fr (Fs117.mono rfl) (Fs139.mono rfl)) (by omega) (by omega) (by omega) (by omega) (Or.inl ⟨by omega, by omega, by omega⟩) (fun sq142 tq142 Isq142 Itq142 Gsq142 Gtq142 yq142_0 yq142_1 yq142_2 yq142_3 yq142_4 pcq142 memq142 hRq142 => ?_)
        have Fsq142 := (Gsq142.mono (B := k_lx) rfl).tr Fs117
        have Ftq142 := (Gtq142.mono (B := k_lm) rfl).tr Fs139
        have esq142_6 : sq142 64 1 = σ1 64 1 := (Gsq142 64 1 rfl).trans es117.2.2.2.2.2.2
        rcases pcq142 with pcq142 | pcq142 | pcq142 | pcq142 | pcq142
        · show h_T g_P (g_Y ns) 149 67 [(3, .int (Int32.ofInt 0)), (0, .ref 98), (1, .int (Int32.ofInt 0)), (2, .int y2)] [] tq142 _
          clear hz113 hz138
          refine h_iload_n (pc' := 68) rfl rfl rfl ?_
          refine d_toL (g_inj ns) hlw119 hRq142 (fun lvw143 memw143 hlw143 hRw143 => ?_)
          show h_T g_P (g_Y ns) 58 72 [(2, .int z118), (0, .ref 63), (1, .int x1)] [] sq142 _
          refine h_iload_n (pc' := 73) rfl rfl rfl ?_
          refine h_iret rfl rfl (d_endL hlw143 hRw143 ?_)
          show h_T g_P (g_Y ns) 149 68 [(3, .int (Int32.ofInt 0)), (0, .ref 98), (1, .int (Int32.ofInt 0)), (2, .int y2)] [.int (Int32.ofInt 0)] tq142 _
          exact h_iret rfl rfl (d_cs.nil (kk _ _ hz118 _ _ ci_0 _ _ Isq142 Itq142 Fsq142 Ftq142 (by omega) (by omega) (by omega) (by omega) (by omega) (Or.inl ⟨by omega, by omega, by omega, by omega, by omega⟩)))
        · exfalso; omega
        · exfalso; omega
        · exfalso; omega
        · exfalso; omega
      · replace c133 := (h_lcr hz132).2.2.1 c133
        clear hz132
        refine h_iconst (pc' := 14) (x := (Int32.ofInt 1)) rfl rfl rfl ?_
        refine h_goto (pc' := 18) rfl rfl ?_
        refine h_zret rfl rfl ci_1 (by omega) (h_Kv ?_)
        clear hz127 hz128 hz129
        refine h_zne (tg := 47) (pc' := 42) rfl rfl rfl ci_1 (fun c144 => ?_) (fun c144 => absurd c144 (by omega))
        refine h_aload_n (pc' := 48) rfl rfl rfl ?_
        refine h_getI (pc' := 51) (v := σ2 98 13) rfl rfl rfl rfl rfl rfl (fun z145 hz145 => ?_)
        refine h_zne (tg := 61) (pc' := 54) rfl rfl rfl hz145 (fun c146 => absurd c146 (by omega)) (fun c146 => ?_)
        clear hz145
        refine h_aload_n (pc' := 55) rfl rfl rfl ?_
        refine h_getI (pc' := 58) (v := σ2 98 18) rfl rfl rfl rfl rfl rfl (fun z147 hz147 => ?_)
        refine h_goto (pc' := 62) rfl rfl ?_
        refine h_istore_n (pc' := 63) (M := [(3, .int z147), (0, .ref 98), (1, .int (Int32.ofInt 0)), (2, .int y2)]) rfl rfl rfl rfl ?_
        refine h_aload_n (pc' := 64) rfl rfl rfl ?_
        exfalso
        omega
  · show h_T g_P (g_Y ns) 58 0 [(0, .ref 63), (1, .int x1)] [] σ1 _
    refine h_aload_n (pc' := 1) rfl rfl rfl ?_
    refine h_getI (pc' := 4) (v := σ1 63 2) rfl rfl rfl rfl rfl rfl (fun z148 hz148 => ?_)
    have tz148 := tf_63_2 hI1
    refine h_zne (tg := 30) (pc' := 7) rfl rfl rfl hz148 (fun c149 => absurd c149 (by omega)) (fun c149 => ?_)
    clear hz148
    refine h_aload_n (pc' := 8) rfl rfl rfl ?_
    refine h_getR (pc' := 11) rfl rfl rfl rfl rfl ?_
    refine h_getI (pc' := 14) (v := σ1 64 3) rfl rfl rfl rfl rfl rfl (fun z150 hz150 => ?_)
    have tz150 := tf_64_3 hI1
    refine h_iconst (pc' := 15) (x := (Int32.ofInt 2)) rfl rfl rfl ?_
    refine h_ceq (tg := 30) (pc' := 18) rfl rfl rfl hz150 ci_2 (fun c151 => absurd c151 (by omega)) (fun c151 => ?_)
    clear hz150
    refine h_aload_n (pc' := 19) rfl rfl rfl ?_
    refine h_iconst (pc' := 20) (x := (Int32.ofInt 2)) rfl rfl rfl ?_
    refine h_aload_n (pc' := 21) rfl rfl rfl ?_
    refine h_getR (pc' := 24) rfl rfl rfl rfl rfl ?_
    refine h_getI (pc' := 27) (v := σ1 64 4) rfl rfl rfl rfl rfl rfl (fun z152 hz152 => ?_)
    have tz152 := tf_64_4 hI1
    refine h_call (sp := false) (pc' := 30) (M := [(0, .ref 63), (1, .int (Int32.ofInt 2)), (2, .int z152)]) rfl rfl rfl rfl rfl rfl rfl rfl ?_
    refine h_aload_n (pc' := 1) rfl rfl rfl ?_
    refine h_getI (pc' := 4) (v := σ1 63 2) rfl rfl rfl rfl rfl rfl (fun z153 hz153 => ?_)
    refine h_zne (tg := 17) (pc' := 7) rfl rfl rfl hz153 (fun c154 => absurd c154 (by omega)) (fun c154 => ?_)
    clear hz153
    refine h_aload_n (pc' := 8) rfl rfl rfl ?_
    refine h_iload_n (pc' := 9) rfl rfl rfl ?_
    refine h_put (pc' := 12) rfl rfl rfl rfl rfl rfl ci_2 rfl (h_fgt (E := fun s => s 64 2 = σ1 64 2 ∧ s 64 4 = σ1 64 4 ∧ s 64 3 = σ1 64 3 ∧ s 64 5 = σ1 64 5 ∧ s 63 2 = 2 ∧ s 63 3 = σ1 63 3 ∧ s 64 1 = σ1 64 1) _ (if_63_2 hI1 (by omega)) (F1.up rfl) ⟨rfl, rfl, rfl, rfl, rfl, rfl, rfl⟩ (fun s155 Is155 Fs155 (es155 : s155 64 2 = σ1 64 2 ∧ s155 64 4 = σ1 64 4 ∧ s155 64 3 = σ1 64 3 ∧ s155 64 5 = σ1 64 5 ∧ s155 63 2 = 2 ∧ s155 63 3 = σ1 63 3 ∧ s155 64 1 = σ1 64 1) => ?_))
    refine h_aload_n (pc' := 13) rfl rfl rfl ?_
    refine h_iload_n (pc' := 14) rfl rfl rfl ?_
    refine h_put (pc' := 17) rfl rfl rfl rfl rfl rfl hz152 rfl (h_fgt (E := fun s => s 64 2 = σ1 64 2 ∧ s 64 4 = σ1 64 4 ∧ s 64 3 = σ1 64 3 ∧ s 64 5 = σ1 64 5 ∧ s 63 2 = 2 ∧ s 63 3 = (σ1 64 4) ∧ s 64 1 = σ1 64 1) _ (if_63_3 Is155 (h_rgv hz152)) (Fs155.up rfl) ⟨es155.1, es155.2.1, es155.2.2.1, es155.2.2.2.1, es155.2.2.2.2.1, rfl, es155.2.2.2.2.2.2⟩ (fun s156 Is156 Fs156 (es156 : s156 64 2 = σ1 64 2 ∧ s156 64 4 = σ1 64 4 ∧ s156 64 3 = σ1 64 3 ∧ s156 64 5 = σ1 64 5 ∧ s156 63 2 = 2 ∧ s156 63 3 = (σ1 64 4) ∧ s156 64 1 = σ1 64 1) => ?_))
    clear es155
    refine h_vret rfl rfl (h_Kn ?_)
    refine h_aload_n (pc' := 31) rfl rfl rfl ?_
    refine h_getI (pc' := 34) (v := 2) rfl rfl rfl rfl rfl es156.2.2.2.2.1 (fun z157 hz157 => ?_)
    refine h_zne (tg := 60) (pc' := 37) rfl rfl rfl hz157 (fun c158 => ?_) (fun c158 => absurd c158 (by omega))
    clear hz157
    refine h_aload_n (pc' := 61) rfl rfl rfl ?_
    refine h_getR (pc' := 64) rfl rfl rfl rfl rfl ?_
    refine h_getI (pc' := 67) (v := σ1 64 5) rfl rfl rfl rfl rfl es156.2.2.2.1 (fun z159 hz159 => ?_)
    have tz159 := tf_64_5 hI1
    refine h_istore_n (pc' := 68) (M := [(2, .int z159), (0, .ref 63), (1, .int x1)]) rfl rfl rfl rfl ?_
    refine h_aload_n (pc' := 69) rfl rfl rfl ?_
    refine d_toM (g_inj ns) hl2 hR2 (fun lvw160 memw160 hlw160 hRw160 => ?_)
    show h_T g_P (g_Y ns) 149 0 [(0, .ref 98), (1, .int (Int32.ofInt 0)), (2, .int y2)] [] σ2 _
    refine h_aload_n (pc' := 1) rfl rfl rfl ?_
    refine h_getI (pc' := 4) (v := σ2 98 13) rfl rfl rfl rfl rfl rfl (fun z161 hz161 => ?_)
    have tz161 := tf_98_13 hI2
    refine h_zne (tg := 20) (pc' := 7) rfl rfl rfl hz161 (fun c162 => absurd c162 (by omega)) (fun c162 => ?_)
    clear hz161
    refine h_aload_n (pc' := 8) rfl rfl rfl ?_
    refine h_getI (pc' := 11) (v := σ2 98 17) rfl rfl rfl rfl rfl rfl (fun z163 hz163 => ?_)
    have tz163 := tf_98_17 hI2
    refine h_iconst (pc' := 12) (x := (Int32.ofInt 2)) rfl rfl rfl ?_
    refine h_ceq (tg := 20) (pc' := 15) rfl rfl rfl hz163 ci_2 (fun c164 => absurd c164 (by omega)) (fun c164 => ?_)
    clear hz163
    refine h_aload_n (pc' := 16) rfl rfl rfl ?_
    refine h_iconst (pc' := 17) (x := (Int32.ofInt 2)) rfl rfl rfl ?_
    refine h_call (sp := false) (pc' := 20) (M := [(0, .ref 98), (1, .int (Int32.ofInt 2))]) rfl rfl rfl rfl rfl rfl rfl rfl ?_
    refine h_aload_n (pc' := 1) rfl rfl rfl ?_
    refine h_getI (pc' := 4) (v := σ2 98 13) rfl rfl rfl rfl rfl rfl (fun z165 hz165 => ?_)
    refine h_zne (tg := 20) (pc' := 7) rfl rfl rfl hz165 (fun c166 => absurd c166 (by omega)) (fun c166 => ?_)
    clear hz165
    refine h_aload_n (pc' := 8) rfl rfl rfl ?_
    refine h_iload_n (pc' := 9) rfl rfl rfl ?_
    refine h_put (pc' := 12) rfl rfl rfl rfl rfl rfl ci_2 rfl (h_fgt (E := fun s => s 98 15 = σ2 98 15 ∧ s 98 16 = σ2 98 16 ∧ s 98 17 = σ2 98 17 ∧ s 98 18 = σ2 98 18 ∧ s 98 13 = 2 ∧ s 98 14 = σ2 98 14) _ (if_98_13 hI2 (by omega)) (F2.up rfl) ⟨rfl, rfl, rfl, rfl, rfl, rfl⟩ (fun s167 Is167 Fs167 (es167 : s167 98 15 = σ2 98 15 ∧ s167 98 16 = σ2 98 16 ∧ s167 98 17 = σ2 98 17 ∧ s167 98 18 = σ2 98 18 ∧ s167 98 13 = 2 ∧ s167 98 14 = σ2 98 14) => ?_))
    refine h_aload_n (pc' := 13) rfl rfl rfl ?_
    refine h_aload_n (pc' := 14) rfl rfl rfl ?_
    refine h_getI (pc' := 17) (v := σ2 98 16) rfl rfl rfl rfl rfl es167.2.1 (fun z168 hz168 => ?_)
    have tz168 := tf_98_16 hI2
    refine h_put (pc' := 20) rfl rfl rfl rfl rfl rfl hz168 rfl (h_fgt (E := fun s => s 98 15 = σ2 98 15 ∧ s 98 16 = σ2 98 16 ∧ s 98 17 = σ2 98 17 ∧ s 98 18 = σ2 98 18 ∧ s 98 13 = 2 ∧ s 98 14 = (σ2 98 16)) _ (if_98_14 Is167 (h_rgv hz168)) (Fs167.up rfl) ⟨es167.1, es167.2.1, es167.2.2.1, es167.2.2.2.1, es167.2.2.2.2.1, rfl⟩ (fun s169 Is169 Fs169 (es169 : s169 98 15 = σ2 98 15 ∧ s169 98 16 = σ2 98 16 ∧ s169 98 17 = σ2 98 17 ∧ s169 98 18 = σ2 98 18 ∧ s169 98 13 = 2 ∧ s169 98 14 = (σ2 98 16)) => ?_))
    clear es167
    refine h_vret rfl rfl (h_Kn ?_)
    refine h_aload_n (pc' := 21) rfl rfl rfl ?_
    refine h_getI (pc' := 24) (v := 2) rfl rfl rfl rfl rfl es169.2.2.2.2.1 (fun z170 hz170 => ?_)
    refine h_zne (tg := 47) (pc' := 27) rfl rfl rfl hz170 (fun c171 => ?_) (fun c171 => absurd c171 (by omega))
    clear hz170
    refine h_aload_n (pc' := 48) rfl rfl rfl ?_
    refine h_getI (pc' := 51) (v := 2) rfl rfl rfl rfl rfl es169.2.2.2.2.1 (fun z172 hz172 => ?_)
    refine h_zne (tg := 61) (pc' := 54) rfl rfl rfl hz172 (fun c173 => ?_) (fun c173 => absurd c173 (by omega))
    clear hz172
    refine h_iload_n (pc' := 62) rfl rfl rfl ?_
    refine h_istore_n (pc' := 63) (M := [(3, .int (Int32.ofInt 0)), (0, .ref 98), (1, .int (Int32.ofInt 0)), (2, .int y2)]) rfl rfl rfl rfl ?_
    refine h_aload_n (pc' := 64) rfl rfl rfl ?_
    refine d_pcall (g_inj ns) (m1 := 54) (pc1' := 72) (M1 := [(0, .ref 63)]) (rest1 := []) (m2 := 148) (pc2' := 67) (M2 := [(0, .ref 98)]) (rest2 := []) ⟨false, _, _, _, _, _, _, rfl, rfl, rfl, rfl, rfl, rfl, rfl⟩ ⟨false, _, _, _, _, _, _, rfl, rfl, rfl, rfl, rfl, rfl, rfl⟩ hRw160 ?_
    refine pp_step Is156 Is169 (hTL.fr (Fs156.mono rfl) (Fs169.mono rfl)) (by omega) (by omega) (by omega) (by omega) (Or.inl ⟨by omega, by omega, by omega⟩) (fun sq174 tq174 Isq174 Itq174 Gsq174 Gtq174 yq174_0 yq174_1 yq174_2 yq174_3 yq174_4 pcq174 memq174 hRq174 => ?_)
    have Fsq174 := (Gsq174.mono (B := k_lx) rfl).tr Fs156
    have Ftq174 := (Gtq174.mono (B := k_lm) rfl).tr Fs169
    have esq174_6 : sq174 64 1 = σ1 64 1 := (Gsq174 64 1 rfl).trans es156.2.2.2.2.2.2
    rcases pcq174 with pcq174 | pcq174 | pcq174 | pcq174 | pcq174
    · show h_T g_P (g_Y ns) 149 67 [(3, .int (Int32.ofInt 0)), (0, .ref 98), (1, .int (Int32.ofInt 0)), (2, .int y2)] [] tq174 _
      clear hz152 hz168
      refine h_iload_n (pc' := 68) rfl rfl rfl ?_
      refine d_toL (g_inj ns) hlw160 hRq174 (fun lvw175 memw175 hlw175 hRw175 => ?_)
      show h_T g_P (g_Y ns) 58 72 [(2, .int z159), (0, .ref 63), (1, .int x1)] [] sq174 _
      refine h_iload_n (pc' := 73) rfl rfl rfl ?_
      refine h_iret rfl rfl (d_endL hlw175 hRw175 ?_)
      show h_T g_P (g_Y ns) 149 68 [(3, .int (Int32.ofInt 0)), (0, .ref 98), (1, .int (Int32.ofInt 0)), (2, .int y2)] [.int (Int32.ofInt 0)] tq174 _
      exact h_iret rfl rfl (d_cs.nil (kk _ _ hz159 _ _ ci_0 _ _ Isq174 Itq174 Fsq174 Ftq174 (by omega) (by omega) (by omega) (by omega) (by omega) (Or.inl ⟨by omega, by omega, by omega, by omega, by omega⟩)))
    · exfalso; omega
    · exfalso; omega
    · exfalso; omega
    · exfalso; omega
