set_option maxHeartbeats 100000000 in
theorem pp_text {ns : Nat} {σ1 σ2 : h_S} (hI1 : h_I σ1) (hI2 : h_I σ2) (hTL : d_tape σ1 σ2)  (pr0 : σ1 64 4 = σ2 98 16) {Q : d_Q} (kk : ∀ (r1 : Int32) (b1 : Int) (hb1 : r1.toInt = b1) (r2 : Int32) (b2 : Int) (hb2 : r2.toInt = b2) (τ1 τ2 : h_S), h_I τ1 → h_I τ2 → h_F (k_in k_tx) τ1 σ1 → h_F (k_in k_tm) τ2 σ2 → (b1 = b2) → (τ1 63 2 = τ2 98 12) → (τ1 64 4 = τ2 98 16) → (τ1 64 1 = 0) → (τ2 98 11 = 0) → (τ1 63 2 = 0 → c_tx τ1 τ2) → (1 ≤ τ1 63 2 → c_un σ1 σ2 τ1 τ2) → (((1 ≤ τ1 63 2 ∧ τ1 63 2 ≤ 6) ∧ (1 ≤ τ2 98 12 ∧ τ2 98 12 ≤ 6) ∧ (τ1 90 2 = σ1 90 2) ∧ (τ2 98 29 = σ2 98 29) ∧ (τ1 62 0 = σ1 62 0) ∧ (τ1 62 1 = σ1 62 1) ∧ (τ2 110 0 = σ2 110 0) ∧ (τ2 110 1 = σ2 110 1)) ∨ ((τ1 63 2 = 0) ∧ (τ2 98 12 = 0) ∧ (τ1 90 2 = 0) ∧ (τ2 98 29 = 0) ∧ (τ1 62 0 = 0) ∧ (τ1 62 1 = 0) ∧ (τ2 110 0 = 0) ∧ (τ2 110 1 = 0))) → Q (some (.int r1)) τ1 (some (.int r2)) τ2) : d_P g_P (g_Y ns) 84 0 [(0, .ref 9)] σ1 155 0 [(0, .ref 98)] σ2 Q := by
  intro lv2 mem2 hl2 hR2
  have hT := hTL.1
  have hL := hTL.2
  have F1 : h_F (k_in k_tx) σ1 σ1 := h_F.rf
  have F2 : h_F (k_in k_tm) σ2 σ2 := h_F.rf
  have ge0 := tf_64_1 hI1
  refine h_aload_n (pc' := 1) rfl rfl rfl ?_
  refine h_getR (pc' := 4) rfl rfl rfl rfl rfl ?_
  refine d_call (g_inj ns) (pc' := 7) (m := 52) (M := [(0, .ref 63)]) (rest := []) ⟨false, _, _, _, _, _, _, rfl, rfl, rfl, rfl, rfl, rfl, rfl⟩ (fun lv21 hlv21 => ?_)
  refine h_aload_n (pc' := 1) rfl rfl rfl ?_
  refine h_getR (pc' := 4) rfl rfl rfl rfl rfl ?_
  refine h_call (sp := false) (pc' := 7) (M := [(0, .ref 66)]) rfl rfl rfl rfl rfl rfl rfl rfl ?_
  refine h_aload_n (pc' := 1) rfl rfl rfl ?_
  refine h_iconst (pc' := 2) (x := (Int32.ofInt 0)) rfl rfl rfl ?_
  refine h_put (pc' := 5) rfl rfl rfl rfl rfl rfl ci_0 rfl (h_fgt (E := fun s => s 64 2 = σ1 64 2 ∧ s 64 4 = σ1 64 4 ∧ s 64 3 = σ1 64 3 ∧ s 64 5 = σ1 64 5 ∧ s 63 2 = σ1 63 2 ∧ s 63 3 = σ1 63 3 ∧ s 64 1 = σ1 64 1 ∧ s 66 8 = 0 ∧ s 66 9 = σ1 66 9 ∧ s 66 10 = σ1 66 10 ∧ s 69 2 = σ1 69 2 ∧ s 72 2 = σ1 72 2 ∧ s 63 5 = σ1 63 5 ∧ s 63 4 = σ1 63 4 ∧ s 90 2 = σ1 90 2 ∧ s 62 0 = σ1 62 0 ∧ s 62 1 = σ1 62 1 ∧ s = h_up σ1 66 8 0) _ (if_66_8 hI1 (by omega)) (F1.up rfl) ⟨rfl, rfl, rfl, rfl, rfl, rfl, rfl, rfl, rfl, rfl, rfl, rfl, rfl, rfl, rfl, rfl, rfl, rfl⟩ (fun s22 Is22 Fs22 (es22 : s22 64 2 = σ1 64 2 ∧ s22 64 4 = σ1 64 4 ∧ s22 64 3 = σ1 64 3 ∧ s22 64 5 = σ1 64 5 ∧ s22 63 2 = σ1 63 2 ∧ s22 63 3 = σ1 63 3 ∧ s22 64 1 = σ1 64 1 ∧ s22 66 8 = 0 ∧ s22 66 9 = σ1 66 9 ∧ s22 66 10 = σ1 66 10 ∧ s22 69 2 = σ1 69 2 ∧ s22 72 2 = σ1 72 2 ∧ s22 63 5 = σ1 63 5 ∧ s22 63 4 = σ1 63 4 ∧ s22 90 2 = σ1 90 2 ∧ s22 62 0 = σ1 62 0 ∧ s22 62 1 = σ1 62 1 ∧ s22 = h_up σ1 66 8 0) => ?_))
  have us22 := es22.2.2.2.2.2.2.2.2.2.2.2.2.2.2.2.2.2
  refine h_aload_n (pc' := 6) rfl rfl rfl ?_
  refine h_getR (pc' := 9) rfl rfl rfl rfl rfl ?_
  refine h_iconst (pc' := 10) (x := (Int32.ofInt 0)) rfl rfl rfl ?_
  refine h_put (pc' := 13) rfl rfl rfl rfl rfl rfl ci_0 rfl (h_fgt (E := fun s => s 64 2 = σ1 64 2 ∧ s 64 4 = σ1 64 4 ∧ s 64 3 = σ1 64 3 ∧ s 64 5 = σ1 64 5 ∧ s 63 2 = σ1 63 2 ∧ s 63 3 = σ1 63 3 ∧ s 64 1 = σ1 64 1 ∧ s 66 8 = 0 ∧ s 66 9 = σ1 66 9 ∧ s 66 10 = σ1 66 10 ∧ s 69 2 = 0 ∧ s 72 2 = σ1 72 2 ∧ s 63 5 = σ1 63 5 ∧ s 63 4 = σ1 63 4 ∧ s 90 2 = σ1 90 2 ∧ s 62 0 = σ1 62 0 ∧ s 62 1 = σ1 62 1 ∧ s = h_up s22 69 2 0) _ (if_69_2 Is22 (by omega)) (Fs22.up rfl) ⟨es22.1, es22.2.1, es22.2.2.1, es22.2.2.2.1, es22.2.2.2.2.1, es22.2.2.2.2.2.1, es22.2.2.2.2.2.2.1, es22.2.2.2.2.2.2.2.1, es22.2.2.2.2.2.2.2.2.1, es22.2.2.2.2.2.2.2.2.2.1, rfl, es22.2.2.2.2.2.2.2.2.2.2.2.1, es22.2.2.2.2.2.2.2.2.2.2.2.2.1, es22.2.2.2.2.2.2.2.2.2.2.2.2.2.1, es22.2.2.2.2.2.2.2.2.2.2.2.2.2.2.1, es22.2.2.2.2.2.2.2.2.2.2.2.2.2.2.2.1, es22.2.2.2.2.2.2.2.2.2.2.2.2.2.2.2.2.1, rfl⟩ (fun s23 Is23 Fs23 (es23 : s23 64 2 = σ1 64 2 ∧ s23 64 4 = σ1 64 4 ∧ s23 64 3 = σ1 64 3 ∧ s23 64 5 = σ1 64 5 ∧ s23 63 2 = σ1 63 2 ∧ s23 63 3 = σ1 63 3 ∧ s23 64 1 = σ1 64 1 ∧ s23 66 8 = 0 ∧ s23 66 9 = σ1 66 9 ∧ s23 66 10 = σ1 66 10 ∧ s23 69 2 = 0 ∧ s23 72 2 = σ1 72 2 ∧ s23 63 5 = σ1 63 5 ∧ s23 63 4 = σ1 63 4 ∧ s23 90 2 = σ1 90 2 ∧ s23 62 0 = σ1 62 0 ∧ s23 62 1 = σ1 62 1 ∧ s23 = h_up s22 69 2 0) => ?_))
  clear es22
  have us23 := es23.2.2.2.2.2.2.2.2.2.2.2.2.2.2.2.2.2
  refine h_aload_n (pc' := 14) rfl rfl rfl ?_
  refine h_getR (pc' := 17) rfl rfl rfl rfl rfl ?_
  refine h_iconst (pc' := 18) (x := (Int32.ofInt 0)) rfl rfl rfl ?_
  refine h_put (pc' := 21) rfl rfl rfl rfl rfl rfl ci_0 rfl (h_fgt (E := fun s => s 64 2 = σ1 64 2 ∧ s 64 4 = σ1 64 4 ∧ s 64 3 = σ1 64 3 ∧ s 64 5 = σ1 64 5 ∧ s 63 2 = σ1 63 2 ∧ s 63 3 = σ1 63 3 ∧ s 64 1 = σ1 64 1 ∧ s 66 8 = 0 ∧ s 66 9 = σ1 66 9 ∧ s 66 10 = σ1 66 10 ∧ s 69 2 = 0 ∧ s 72 2 = 0 ∧ s 63 5 = σ1 63 5 ∧ s 63 4 = σ1 63 4 ∧ s 90 2 = σ1 90 2 ∧ s 62 0 = σ1 62 0 ∧ s 62 1 = σ1 62 1 ∧ s = h_up s23 72 2 0) _ (if_72_2 Is23 (by omega)) (Fs23.up rfl) ⟨es23.1, es23.2.1, es23.2.2.1, es23.2.2.2.1, es23.2.2.2.2.1, es23.2.2.2.2.2.1, es23.2.2.2.2.2.2.1, es23.2.2.2.2.2.2.2.1, es23.2.2.2.2.2.2.2.2.1, es23.2.2.2.2.2.2.2.2.2.1, es23.2.2.2.2.2.2.2.2.2.2.1, rfl, es23.2.2.2.2.2.2.2.2.2.2.2.2.1, es23.2.2.2.2.2.2.2.2.2.2.2.2.2.1, es23.2.2.2.2.2.2.2.2.2.2.2.2.2.2.1, es23.2.2.2.2.2.2.2.2.2.2.2.2.2.2.2.1, es23.2.2.2.2.2.2.2.2.2.2.2.2.2.2.2.2.1, rfl⟩ (fun s24 Is24 Fs24 (es24 : s24 64 2 = σ1 64 2 ∧ s24 64 4 = σ1 64 4 ∧ s24 64 3 = σ1 64 3 ∧ s24 64 5 = σ1 64 5 ∧ s24 63 2 = σ1 63 2 ∧ s24 63 3 = σ1 63 3 ∧ s24 64 1 = σ1 64 1 ∧ s24 66 8 = 0 ∧ s24 66 9 = σ1 66 9 ∧ s24 66 10 = σ1 66 10 ∧ s24 69 2 = 0 ∧ s24 72 2 = 0 ∧ s24 63 5 = σ1 63 5 ∧ s24 63 4 = σ1 63 4 ∧ s24 90 2 = σ1 90 2 ∧ s24 62 0 = σ1 62 0 ∧ s24 62 1 = σ1 62 1 ∧ s24 = h_up s23 72 2 0) => ?_))
  clear es23
  have us24 := es24.2.2.2.2.2.2.2.2.2.2.2.2.2.2.2.2.2
  refine h_aload_n (pc' := 22) rfl rfl rfl ?_
  refine h_iconst (pc' := 23) (x := (Int32.ofInt 0)) rfl rfl rfl ?_
  refine h_put (pc' := 26) rfl rfl rfl rfl rfl rfl ci_0 rfl (h_fgt (E := fun s => s 64 2 = σ1 64 2 ∧ s 64 4 = σ1 64 4 ∧ s 64 3 = σ1 64 3 ∧ s 64 5 = σ1 64 5 ∧ s 63 2 = σ1 63 2 ∧ s 63 3 = σ1 63 3 ∧ s 64 1 = σ1 64 1 ∧ s 66 8 = 0 ∧ s 66 9 = 0 ∧ s 66 10 = σ1 66 10 ∧ s 69 2 = 0 ∧ s 72 2 = 0 ∧ s 63 5 = σ1 63 5 ∧ s 63 4 = σ1 63 4 ∧ s 90 2 = σ1 90 2 ∧ s 62 0 = σ1 62 0 ∧ s 62 1 = σ1 62 1 ∧ s = h_up s24 66 9 0) _ (if_66_9 Is24 (by omega)) (Fs24.up rfl) ⟨es24.1, es24.2.1, es24.2.2.1, es24.2.2.2.1, es24.2.2.2.2.1, es24.2.2.2.2.2.1, es24.2.2.2.2.2.2.1, es24.2.2.2.2.2.2.2.1, rfl, es24.2.2.2.2.2.2.2.2.2.1, es24.2.2.2.2.2.2.2.2.2.2.1, es24.2.2.2.2.2.2.2.2.2.2.2.1, es24.2.2.2.2.2.2.2.2.2.2.2.2.1, es24.2.2.2.2.2.2.2.2.2.2.2.2.2.1, es24.2.2.2.2.2.2.2.2.2.2.2.2.2.2.1, es24.2.2.2.2.2.2.2.2.2.2.2.2.2.2.2.1, es24.2.2.2.2.2.2.2.2.2.2.2.2.2.2.2.2.1, rfl⟩ (fun s25 Is25 Fs25 (es25 : s25 64 2 = σ1 64 2 ∧ s25 64 4 = σ1 64 4 ∧ s25 64 3 = σ1 64 3 ∧ s25 64 5 = σ1 64 5 ∧ s25 63 2 = σ1 63 2 ∧ s25 63 3 = σ1 63 3 ∧ s25 64 1 = σ1 64 1 ∧ s25 66 8 = 0 ∧ s25 66 9 = 0 ∧ s25 66 10 = σ1 66 10 ∧ s25 69 2 = 0 ∧ s25 72 2 = 0 ∧ s25 63 5 = σ1 63 5 ∧ s25 63 4 = σ1 63 4 ∧ s25 90 2 = σ1 90 2 ∧ s25 62 0 = σ1 62 0 ∧ s25 62 1 = σ1 62 1 ∧ s25 = h_up s24 66 9 0) => ?_))
  clear es24
  have us25 := es25.2.2.2.2.2.2.2.2.2.2.2.2.2.2.2.2.2
  refine h_aload_n (pc' := 27) rfl rfl rfl ?_
  refine h_iconst (pc' := 28) (x := (Int32.ofInt 0)) rfl rfl rfl ?_
  refine h_put (pc' := 31) rfl rfl rfl rfl rfl rfl ci_0 rfl (h_fgt (E := fun s => s 64 2 = σ1 64 2 ∧ s 64 4 = σ1 64 4 ∧ s 64 3 = σ1 64 3 ∧ s 64 5 = σ1 64 5 ∧ s 63 2 = σ1 63 2 ∧ s 63 3 = σ1 63 3 ∧ s 64 1 = σ1 64 1 ∧ s 66 8 = 0 ∧ s 66 9 = 0 ∧ s 66 10 = 0 ∧ s 69 2 = 0 ∧ s 72 2 = 0 ∧ s 63 5 = σ1 63 5 ∧ s 63 4 = σ1 63 4 ∧ s 90 2 = σ1 90 2 ∧ s 62 0 = σ1 62 0 ∧ s 62 1 = σ1 62 1 ∧ s = h_up s25 66 10 0) _ (if_66_10 Is25 (by omega)) (Fs25.up rfl) ⟨es25.1, es25.2.1, es25.2.2.1, es25.2.2.2.1, es25.2.2.2.2.1, es25.2.2.2.2.2.1, es25.2.2.2.2.2.2.1, es25.2.2.2.2.2.2.2.1, es25.2.2.2.2.2.2.2.2.1, rfl, es25.2.2.2.2.2.2.2.2.2.2.1, es25.2.2.2.2.2.2.2.2.2.2.2.1, es25.2.2.2.2.2.2.2.2.2.2.2.2.1, es25.2.2.2.2.2.2.2.2.2.2.2.2.2.1, es25.2.2.2.2.2.2.2.2.2.2.2.2.2.2.1, es25.2.2.2.2.2.2.2.2.2.2.2.2.2.2.2.1, es25.2.2.2.2.2.2.2.2.2.2.2.2.2.2.2.2.1, rfl⟩ (fun s26 Is26 Fs26 (es26 : s26 64 2 = σ1 64 2 ∧ s26 64 4 = σ1 64 4 ∧ s26 64 3 = σ1 64 3 ∧ s26 64 5 = σ1 64 5 ∧ s26 63 2 = σ1 63 2 ∧ s26 63 3 = σ1 63 3 ∧ s26 64 1 = σ1 64 1 ∧ s26 66 8 = 0 ∧ s26 66 9 = 0 ∧ s26 66 10 = 0 ∧ s26 69 2 = 0 ∧ s26 72 2 = 0 ∧ s26 63 5 = σ1 63 5 ∧ s26 63 4 = σ1 63 4 ∧ s26 90 2 = σ1 90 2 ∧ s26 62 0 = σ1 62 0 ∧ s26 62 1 = σ1 62 1 ∧ s26 = h_up s25 66 10 0) => ?_))
  clear es25
  have us26 := es26.2.2.2.2.2.2.2.2.2.2.2.2.2.2.2.2.2
  refine h_vret rfl rfl (h_Kn ?_)
  refine h_aload_n (pc' := 8) rfl rfl rfl ?_
  refine h_iconst (pc' := 9) (x := (Int32.ofInt 0)) rfl rfl rfl ?_
  refine h_put (pc' := 12) rfl rfl rfl rfl rfl rfl ci_0 rfl (h_fgt (E := fun s => s 64 2 = σ1 64 2 ∧ s 64 4 = σ1 64 4 ∧ s 64 3 = σ1 64 3 ∧ s 64 5 = σ1 64 5 ∧ s 63 2 = 0 ∧ s 63 3 = σ1 63 3 ∧ s 64 1 = σ1 64 1 ∧ s 66 8 = 0 ∧ s 66 9 = 0 ∧ s 66 10 = 0 ∧ s 69 2 = 0 ∧ s 72 2 = 0 ∧ s 63 5 = σ1 63 5 ∧ s 63 4 = σ1 63 4 ∧ s 90 2 = σ1 90 2 ∧ s 62 0 = σ1 62 0 ∧ s 62 1 = σ1 62 1 ∧ s = h_up s26 63 2 0) _ (if_63_2 Is26 (by omega)) (Fs26.up rfl) ⟨es26.1, es26.2.1, es26.2.2.1, es26.2.2.2.1, rfl, es26.2.2.2.2.2.1, es26.2.2.2.2.2.2.1, es26.2.2.2.2.2.2.2.1, es26.2.2.2.2.2.2.2.2.1, es26.2.2.2.2.2.2.2.2.2.1, es26.2.2.2.2.2.2.2.2.2.2.1, es26.2.2.2.2.2.2.2.2.2.2.2.1, es26.2.2.2.2.2.2.2.2.2.2.2.2.1, es26.2.2.2.2.2.2.2.2.2.2.2.2.2.1, es26.2.2.2.2.2.2.2.2.2.2.2.2.2.2.1, es26.2.2.2.2.2.2.2.2.2.2.2.2.2.2.2.1, es26.2.2.2.2.2.2.2.2.2.2.2.2.2.2.2.2.1, rfl⟩ (fun s27 Is27 Fs27 (es27 : s27 64 2 = σ1 64 2 ∧ s27 64 4 = σ1 64 4 ∧ s27 64 3 = σ1 64 3 ∧ s27 64 5 = σ1 64 5 ∧ s27 63 2 = 0 ∧ s27 63 3 = σ1 63 3 ∧ s27 64 1 = σ1 64 1 ∧ s27 66 8 = 0 ∧ s27 66 9 = 0 ∧ s27 66 10 = 0 ∧ s27 69 2 = 0 ∧ s27 72 2 = 0 ∧ s27 63 5 = σ1 63 5 ∧ s27 63 4 = σ1 63 4 ∧ s27 90 2 = σ1 90 2 ∧ s27 62 0 = σ1 62 0 ∧ s27 62 1 = σ1 62 1 ∧ s27 = h_up s26 63 2 0) => ?_))
  clear es26
  have us27 := es27.2.2.2.2.2.2.2.2.2.2.2.2.2.2.2.2.2
  refine h_aload_n (pc' := 13) rfl rfl rfl ?_
  refine h_iconst (pc' := 14) (x := (Int32.ofInt 0)) rfl rfl rfl ?_
  refine h_put (pc' := 17) rfl rfl rfl rfl rfl rfl ci_0 rfl (h_fgt (E := fun s => s 64 2 = σ1 64 2 ∧ s 64 4 = σ1 64 4 ∧ s 64 3 = σ1 64 3 ∧ s 64 5 = σ1 64 5 ∧ s 63 2 = 0 ∧ s 63 3 = σ1 63 3 ∧ s 64 1 = σ1 64 1 ∧ s 66 8 = 0 ∧ s 66 9 = 0 ∧ s 66 10 = 0 ∧ s 69 2 = 0 ∧ s 72 2 = 0 ∧ s 63 5 = σ1 63 5 ∧ s 63 4 = 0 ∧ s 90 2 = σ1 90 2 ∧ s 62 0 = σ1 62 0 ∧ s 62 1 = σ1 62 1 ∧ s = h_up s27 63 4 0) _ (if_63_4 Is27 (h_rgv ci_0)) (Fs27.up rfl) ⟨es27.1, es27.2.1, es27.2.2.1, es27.2.2.2.1, es27.2.2.2.2.1, es27.2.2.2.2.2.1, es27.2.2.2.2.2.2.1, es27.2.2.2.2.2.2.2.1, es27.2.2.2.2.2.2.2.2.1, es27.2.2.2.2.2.2.2.2.2.1, es27.2.2.2.2.2.2.2.2.2.2.1, es27.2.2.2.2.2.2.2.2.2.2.2.1, es27.2.2.2.2.2.2.2.2.2.2.2.2.1, rfl, es27.2.2.2.2.2.2.2.2.2.2.2.2.2.2.1, es27.2.2.2.2.2.2.2.2.2.2.2.2.2.2.2.1, es27.2.2.2.2.2.2.2.2.2.2.2.2.2.2.2.2.1, rfl⟩ (fun s28 Is28 Fs28 (es28 : s28 64 2 = σ1 64 2 ∧ s28 64 4 = σ1 64 4 ∧ s28 64 3 = σ1 64 3 ∧ s28 64 5 = σ1 64 5 ∧ s28 63 2 = 0 ∧ s28 63 3 = σ1 63 3 ∧ s28 64 1 = σ1 64 1 ∧ s28 66 8 = 0 ∧ s28 66 9 = 0 ∧ s28 66 10 = 0 ∧ s28 69 2 = 0 ∧ s28 72 2 = 0 ∧ s28 63 5 = σ1 63 5 ∧ s28 63 4 = 0 ∧ s28 90 2 = σ1 90 2 ∧ s28 62 0 = σ1 62 0 ∧ s28 62 1 = σ1 62 1 ∧ s28 = h_up s27 63 4 0) => ?_))
  clear es27
  have us28 := es28.2.2.2.2.2.2.2.2.2.2.2.2.2.2.2.2.2
  refine h_aload_n (pc' := 18) rfl rfl rfl ?_
  refine h_iconst (pc' := 19) (x := (Int32.ofInt 0)) rfl rfl rfl ?_
  refine h_put (pc' := 22) rfl rfl rfl rfl rfl rfl ci_0 (h_fb ci_0 (by omega)) (h_fgt (E := fun s => s 64 2 = σ1 64 2 ∧ s 64 4 = σ1 64 4 ∧ s 64 3 = σ1 64 3 ∧ s 64 5 = σ1 64 5 ∧ s 63 2 = 0 ∧ s 63 3 = σ1 63 3 ∧ s 64 1 = σ1 64 1 ∧ s 66 8 = 0 ∧ s 66 9 = 0 ∧ s 66 10 = 0 ∧ s 69 2 = 0 ∧ s 72 2 = 0 ∧ s 63 5 = 0 ∧ s 63 4 = 0 ∧ s 90 2 = σ1 90 2 ∧ s 62 0 = σ1 62 0 ∧ s 62 1 = σ1 62 1 ∧ s = h_up s28 63 5 0) _ (if_63_5 Is28 (by omega)) (Fs28.up rfl) ⟨es28.1, es28.2.1, es28.2.2.1, es28.2.2.2.1, es28.2.2.2.2.1, es28.2.2.2.2.2.1, es28.2.2.2.2.2.2.1, es28.2.2.2.2.2.2.2.1, es28.2.2.2.2.2.2.2.2.1, es28.2.2.2.2.2.2.2.2.2.1, es28.2.2.2.2.2.2.2.2.2.2.1, es28.2.2.2.2.2.2.2.2.2.2.2.1, rfl, es28.2.2.2.2.2.2.2.2.2.2.2.2.2.1, es28.2.2.2.2.2.2.2.2.2.2.2.2.2.2.1, es28.2.2.2.2.2.2.2.2.2.2.2.2.2.2.2.1, es28.2.2.2.2.2.2.2.2.2.2.2.2.2.2.2.2.1, rfl⟩ (fun s29 Is29 Fs29 (es29 : s29 64 2 = σ1 64 2 ∧ s29 64 4 = σ1 64 4 ∧ s29 64 3 = σ1 64 3 ∧ s29 64 5 = σ1 64 5 ∧ s29 63 2 = 0 ∧ s29 63 3 = σ1 63 3 ∧ s29 64 1 = σ1 64 1 ∧ s29 66 8 = 0 ∧ s29 66 9 = 0 ∧ s29 66 10 = 0 ∧ s29 69 2 = 0 ∧ s29 72 2 = 0 ∧ s29 63 5 = 0 ∧ s29 63 4 = 0 ∧ s29 90 2 = σ1 90 2 ∧ s29 62 0 = σ1 62 0 ∧ s29 62 1 = σ1 62 1 ∧ s29 = h_up s28 63 5 0) => ?_))
  clear es28
  have us29 := es29.2.2.2.2.2.2.2.2.2.2.2.2.2.2.2.2.2
  refine h_aload_n (pc' := 23) rfl rfl rfl ?_
  refine h_getR (pc' := 26) rfl rfl rfl rfl rfl ?_
  refine h_call (sp := false) (pc' := 29) (M := [(0, .ref 64)]) rfl rfl rfl rfl rfl rfl rfl rfl ?_
  refine h_aload_n (pc' := 1) rfl rfl rfl ?_
  refine h_iconst (pc' := 2) (x := (Int32.ofInt 0)) rfl rfl rfl ?_
  refine h_put (pc' := 5) rfl rfl rfl rfl rfl rfl ci_0 rfl (h_fgt (E := fun s => s 64 2 = 0 ∧ s 64 4 = σ1 64 4 ∧ s 64 3 = σ1 64 3 ∧ s 64 5 = σ1 64 5 ∧ s 63 2 = 0 ∧ s 63 3 = σ1 63 3 ∧ s 64 1 = σ1 64 1 ∧ s 66 8 = 0 ∧ s 66 9 = 0 ∧ s 66 10 = 0 ∧ s 69 2 = 0 ∧ s 72 2 = 0 ∧ s 63 5 = 0 ∧ s 63 4 = 0 ∧ s 90 2 = σ1 90 2 ∧ s 62 0 = σ1 62 0 ∧ s 62 1 = σ1 62 1 ∧ s = h_up s29 64 2 0) _ (if_64_2 Is29 (by omega)) (Fs29.up rfl) ⟨rfl, es29.2.1, es29.2.2.1, es29.2.2.2.1, es29.2.2.2.2.1, es29.2.2.2.2.2.1, es29.2.2.2.2.2.2.1, es29.2.2.2.2.2.2.2.1, es29.2.2.2.2.2.2.2.2.1, es29.2.2.2.2.2.2.2.2.2.1, es29.2.2.2.2.2.2.2.2.2.2.1, es29.2.2.2.2.2.2.2.2.2.2.2.1, es29.2.2.2.2.2.2.2.2.2.2.2.2.1, es29.2.2.2.2.2.2.2.2.2.2.2.2.2.1, es29.2.2.2.2.2.2.2.2.2.2.2.2.2.2.1, es29.2.2.2.2.2.2.2.2.2.2.2.2.2.2.2.1, es29.2.2.2.2.2.2.2.2.2.2.2.2.2.2.2.2.1, rfl⟩ (fun s30 Is30 Fs30 (es30 : s30 64 2 = 0 ∧ s30 64 4 = σ1 64 4 ∧ s30 64 3 = σ1 64 3 ∧ s30 64 5 = σ1 64 5 ∧ s30 63 2 = 0 ∧ s30 63 3 = σ1 63 3 ∧ s30 64 1 = σ1 64 1 ∧ s30 66 8 = 0 ∧ s30 66 9 = 0 ∧ s30 66 10 = 0 ∧ s30 69 2 = 0 ∧ s30 72 2 = 0 ∧ s30 63 5 = 0 ∧ s30 63 4 = 0 ∧ s30 90 2 = σ1 90 2 ∧ s30 62 0 = σ1 62 0 ∧ s30 62 1 = σ1 62 1 ∧ s30 = h_up s29 64 2 0) => ?_))
  clear es29
  have us30 := es30.2.2.2.2.2.2.2.2.2.2.2.2.2.2.2.2.2
  refine h_vret rfl rfl (h_Kn ?_)
  refine h_aload_n (pc' := 30) rfl rfl rfl ?_
  refine d_toM (g_inj ns) hl2 hR2 (fun lvw31 memw31 hlw31 hRw31 => ?_)
  show h_T g_P (g_Y ns) 155 0 [(0, .ref 98)] [] σ2 _
  refine h_aload_n (pc' := 1) rfl rfl rfl ?_
  refine h_iconst (pc' := 2) (x := (Int32.ofInt 0)) rfl rfl rfl ?_
  refine h_put (pc' := 5) rfl rfl rfl rfl rfl rfl ci_0 rfl (h_fgt (E := fun s => s 98 15 = σ2 98 15 ∧ s 98 16 = σ2 98 16 ∧ s 98 17 = σ2 98 17 ∧ s 98 18 = σ2 98 18 ∧ s 98 13 = 0 ∧ s 98 14 = σ2 98 14 ∧ s 98 5 = σ2 98 5 ∧ s 98 6 = σ2 98 6 ∧ s 98 7 = σ2 98 7 ∧ s 98 8 = σ2 98 8 ∧ s 98 9 = σ2 98 9 ∧ s 101 18 = σ2 101 18 ∧ s 101 25 = σ2 101 25 ∧ s 101 43 = σ2 101 43 ∧ s 98 11 = σ2 98 11 ∧ s 98 12 = σ2 98 12 ∧ s 98 29 = σ2 98 29 ∧ s 110 0 = σ2 110 0 ∧ s 110 1 = σ2 110 1 ∧ s 98 1 = σ2 98 1 ∧ s 98 2 = σ2 98 2 ∧ s = h_up σ2 98 13 0) _ (if_98_13 hI2 (by omega)) (F2.up rfl) ⟨rfl, rfl, rfl, rfl, rfl, rfl, rfl, rfl, rfl, rfl, rfl, rfl, rfl, rfl, rfl, rfl, rfl, rfl, rfl, rfl, rfl, rfl⟩ (fun s32 Is32 Fs32 (es32 : s32 98 15 = σ2 98 15 ∧ s32 98 16 = σ2 98 16 ∧ s32 98 17 = σ2 98 17 ∧ s32 98 18 = σ2 98 18 ∧ s32 98 13 = 0 ∧ s32 98 14 = σ2 98 14 ∧ s32 98 5 = σ2 98 5 ∧ s32 98 6 = σ2 98 6 ∧ s32 98 7 = σ2 98 7 ∧ s32 98 8 = σ2 98 8 ∧ s32 98 9 = σ2 98 9 ∧ s32 101 18 = σ2 101 18 ∧ s32 101 25 = σ2 101 25 ∧ s32 101 43 = σ2 101 43 ∧ s32 98 11 = σ2 98 11 ∧ s32 98 12 = σ2 98 12 ∧ s32 98 29 = σ2 98 29 ∧ s32 110 0 = σ2 110 0 ∧ s32 110 1 = σ2 110 1 ∧ s32 98 1 = σ2 98 1 ∧ s32 98 2 = σ2 98 2 ∧ s32 = h_up σ2 98 13 0) => ?_))
  have us32 := es32.2.2.2.2.2.2.2.2.2.2.2.2.2.2.2.2.2.2.2.2.2
  refine h_aload_n (pc' := 6) rfl rfl rfl ?_
  refine h_iconst (pc' := 7) (x := (Int32.ofInt 0)) rfl rfl rfl ?_
  refine h_put (pc' := 10) rfl rfl rfl rfl rfl rfl ci_0 rfl (h_fgt (E := fun s => s 98 15 = 0 ∧ s 98 16 = σ2 98 16 ∧ s 98 17 = σ2 98 17 ∧ s 98 18 = σ2 98 18 ∧ s 98 13 = 0 ∧ s 98 14 = σ2 98 14 ∧ s 98 5 = σ2 98 5 ∧ s 98 6 = σ2 98 6 ∧ s 98 7 = σ2 98 7 ∧ s 98 8 = σ2 98 8 ∧ s 98 9 = σ2 98 9 ∧ s 101 18 = σ2 101 18 ∧ s 101 25 = σ2 101 25 ∧ s 101 43 = σ2 101 43 ∧ s 98 11 = σ2 98 11 ∧ s 98 12 = σ2 98 12 ∧ s 98 29 = σ2 98 29 ∧ s 110 0 = σ2 110 0 ∧ s 110 1 = σ2 110 1 ∧ s 98 1 = σ2 98 1 ∧ s 98 2 = σ2 98 2 ∧ s = h_up s32 98 15 0) _ (if_98_15 Is32 (by omega)) (Fs32.up rfl) ⟨rfl, es32.2.1, es32.2.2.1, es32.2.2.2.1, es32.2.2.2.2.1, es32.2.2.2.2.2.1, es32.2.2.2.2.2.2.1, es32.2.2.2.2.2.2.2.1, es32.2.2.2.2.2.2.2.2.1, es32.2.2.2.2.2.2.2.2.2.1, es32.2.2.2.2.2.2.2.2.2.2.1, es32.2.2.2.2.2.2.2.2.2.2.2.1, es32.2.2.2.2.2.2.2.2.2.2.2.2.1, es32.2.2.2.2.2.2.2.2.2.2.2.2.2.1, es32.2.2.2.2.2.2.2.2.2.2.2.2.2.2.1, es32.2.2.2.2.2.2.2.2.2.2.2.2.2.2.2.1, es32.2.2.2.2.2.2.2.2.2.2.2.2.2.2.2.2.1, es32.2.2.2.2.2.2.2.2.2.2.2.2.2.2.2.2.2.1, es32.2.2.2.2.2.2.2.2.2.2.2.2.2.2.2.2.2.2.1, es32.2.2.2.2.2.2.2.2.2.2.2.2.2.2.2.2.2.2.2.1, es32.2.2.2.2.2.2.2.2.2.2.2.2.2.2.2.2.2.2.2.2.1, rfl⟩ (fun s33 Is33 Fs33 (es33 : s33 98 15 = 0 ∧ s33 98 16 = σ2 98 16 ∧ s33 98 17 = σ2 98 17 ∧ s33 98 18 = σ2 98 18 ∧ s33 98 13 = 0 ∧ s33 98 14 = σ2 98 14 ∧ s33 98 5 = σ2 98 5 ∧ s33 98 6 = σ2 98 6 ∧ s33 98 7 = σ2 98 7 ∧ s33 98 8 = σ2 98 8 ∧ s33 98 9 = σ2 98 9 ∧ s33 101 18 = σ2 101 18 ∧ s33 101 25 = σ2 101 25 ∧ s33 101 43 = σ2 101 43 ∧ s33 98 11 = σ2 98 11 ∧ s33 98 12 = σ2 98 12 ∧ s33 98 29 = σ2 98 29 ∧ s33 110 0 = σ2 110 0 ∧ s33 110 1 = σ2 110 1 ∧ s33 98 1 = σ2 98 1 ∧ s33 98 2 = σ2 98 2 ∧ s33 = h_up s32 98 15 0) => ?_))
  clear es32
  have us33 := es33.2.2.2.2.2.2.2.2.2.2.2.2.2.2.2.2.2.2.2.2.2
  refine h_aload_n (pc' := 11) rfl rfl rfl ?_
  refine h_iconst (pc' := 12) (x := (Int32.ofInt 0)) rfl rfl rfl ?_
  refine h_put (pc' := 15) rfl rfl rfl rfl rfl rfl ci_0 rfl (h_fgt (E := fun s => s 98 15 = 0 ∧ s 98 16 = σ2 98 16 ∧ s 98 17 = σ2 98 17 ∧ s 98 18 = σ2 98 18 ∧ s 98 13 = 0 ∧ s 98 14 = σ2 98 14 ∧ s 98 5 = 0 ∧ s 98 6 = σ2 98 6 ∧ s 98 7 = σ2 98 7 ∧ s 98 8 = σ2 98 8 ∧ s 98 9 = σ2 98 9 ∧ s 101 18 = σ2 101 18 ∧ s 101 25 = σ2 101 25 ∧ s 101 43 = σ2 101 43 ∧ s 98 11 = σ2 98 11 ∧ s 98 12 = σ2 98 12 ∧ s 98 29 = σ2 98 29 ∧ s 110 0 = σ2 110 0 ∧ s 110 1 = σ2 110 1 ∧ s 98 1 = σ2 98 1 ∧ s 98 2 = σ2 98 2 ∧ s = h_up s33 98 5 0) _ (if_98_5 Is33 (by omega)) (Fs33.up rfl) ⟨es33.1, es33.2.1, es33.2.2.1, es33.2.2.2.1, es33.2.2.2.2.1, es33.2.2.2.2.2.1, rfl, es33.2.2.2.2.2.2.2.1, es33.2.2.2.2.2.2.2.2.1, es33.2.2.2.2.2.2.2.2.2.1, es33.2.2.2.2.2.2.2.2.2.2.1, es33.2.2.2.2.2.2.2.2.2.2.2.1, es33.2.2.2.2.2.2.2.2.2.2.2.2.1, es33.2.2.2.2.2.2.2.2.2.2.2.2.2.1, es33.2.2.2.2.2.2.2.2.2.2.2.2.2.2.1, es33.2.2.2.2.2.2.2.2.2.2.2.2.2.2.2.1, es33.2.2.2.2.2.2.2.2.2.2.2.2.2.2.2.2.1, es33.2.2.2.2.2.2.2.2.2.2.2.2.2.2.2.2.2.1, es33.2.2.2.2.2.2.2.2.2.2.2.2.2.2.2.2.2.2.1, es33.2.2.2.2.2.2.2.2.2.2.2.2.2.2.2.2.2.2.2.1, es33.2.2.2.2.2.2.2.2.2.2.2.2.2.2.2.2.2.2.2.2.1, rfl⟩ (fun s34 Is34 Fs34 (es34 : s34 98 15 = 0 ∧ s34 98 16 = σ2 98 16 ∧ s34 98 17 = σ2 98 17 ∧ s34 98 18 = σ2 98 18 ∧ s34 98 13 = 0 ∧ s34 98 14 = σ2 98 14 ∧ s34 98 5 = 0 ∧ s34 98 6 = σ2 98 6 ∧ s34 98 7 = σ2 98 7 ∧ s34 98 8 = σ2 98 8 ∧ s34 98 9 = σ2 98 9 ∧ s34 101 18 = σ2 101 18 ∧ s34 101 25 = σ2 101 25 ∧ s34 101 43 = σ2 101 43 ∧ s34 98 11 = σ2 98 11 ∧ s34 98 12 = σ2 98 12 ∧ s34 98 29 = σ2 98 29 ∧ s34 110 0 = σ2 110 0 ∧ s34 110 1 = σ2 110 1 ∧ s34 98 1 = σ2 98 1 ∧ s34 98 2 = σ2 98 2 ∧ s34 = h_up s33 98 5 0) => ?_))
  clear es33
  have us34 := es34.2.2.2.2.2.2.2.2.2.2.2.2.2.2.2.2.2.2.2.2.2
  refine h_aload_n (pc' := 16) rfl rfl rfl ?_
  refine h_iconst (pc' := 17) (x := (Int32.ofInt 0)) rfl rfl rfl ?_
  refine h_put (pc' := 20) rfl rfl rfl rfl rfl rfl ci_0 rfl (h_fgt (E := fun s => s 98 15 = 0 ∧ s 98 16 = σ2 98 16 ∧ s 98 17 = σ2 98 17 ∧ s 98 18 = σ2 98 18 ∧ s 98 13 = 0 ∧ s 98 14 = σ2 98 14 ∧ s 98 5 = 0 ∧ s 98 6 = 0 ∧ s 98 7 = σ2 98 7 ∧ s 98 8 = σ2 98 8 ∧ s 98 9 = σ2 98 9 ∧ s 101 18 = σ2 101 18 ∧ s 101 25 = σ2 101 25 ∧ s 101 43 = σ2 101 43 ∧ s 98 11 = σ2 98 11 ∧ s 98 12 = σ2 98 12 ∧ s 98 29 = σ2 98 29 ∧ s 110 0 = σ2 110 0 ∧ s 110 1 = σ2 110 1 ∧ s 98 1 = σ2 98 1 ∧ s 98 2 = σ2 98 2 ∧ s = h_up s34 98 6 0) _ (if_98_6 Is34 (by omega)) (Fs34.up rfl) ⟨es34.1, es34.2.1, es34.2.2.1, es34.2.2.2.1, es34.2.2.2.2.1, es34.2.2.2.2.2.1, es34.2.2.2.2.2.2.1, rfl, es34.2.2.2.2.2.2.2.2.1, es34.2.2.2.2.2.2.2.2.2.1, es34.2.2.2.2.2.2.2.2.2.2.1, es34.2.2.2.2.2.2.2.2.2.2.2.1, es34.2.2.2.2.2.2.2.2.2.2.2.2.1, es34.2.2.2.2.2.2.2.2.2.2.2.2.2.1, es34.2.2.2.2.2.2.2.2.2.2.2.2.2.2.1, es34.2.2.2.2.2.2.2.2.2.2.2.2.2.2.2.1, es34.2.2.2.2.2.2.2.2.2.2.2.2.2.2.2.2.1, es34.2.2.2.2.2.2.2.2.2.2.2.2.2.2.2.2.2.1, es34.2.2.2.2.2.2.2.2.2.2.2.2.2.2.2.2.2.2.1, es34.2.2.2.2.2.2.2.2.2.2.2.2.2.2.2.2.2.2.2.1, es34.2.2.2.2.2.2.2.2.2.2.2.2.2.2.2.2.2.2.2.2.1, rfl⟩ (fun s35 Is35 Fs35 (es35 : s35 98 15 = 0 ∧ s35 98 16 = σ2 98 16 ∧ s35 98 17 = σ2 98 17 ∧ s35 98 18 = σ2 98 18 ∧ s35 98 13 = 0 ∧ s35 98 14 = σ2 98 14 ∧ s35 98 5 = 0 ∧ s35 98 6 = 0 ∧ s35 98 7 = σ2 98 7 ∧ s35 98 8 = σ2 98 8 ∧ s35 98 9 = σ2 98 9 ∧ s35 101 18 = σ2 101 18 ∧ s35 101 25 = σ2 101 25 ∧ s35 101 43 = σ2 101 43 ∧ s35 98 11 = σ2 98 11 ∧ s35 98 12 = σ2 98 12 ∧ s35 98 29 = σ2 98 29 ∧ s35 110 0 = σ2 110 0 ∧ s35 110 1 = σ2 110 1 ∧ s35 98 1 = σ2 98 1 ∧ s35 98 2 = σ2 98 2 ∧ s35 = h_up s34 98 6 0) => ?_))
  clear es34
  have us35 := es35.2.2.2.2.2.2.2.2.2.2.2.2.2.2.2.2.2.2.2.2.2
  refine h_aload_n (pc' := 21) rfl rfl rfl ?_
  refine h_iconst (pc' := 22) (x := (Int32.ofInt 0)) rfl rfl rfl ?_
  refine h_put (pc' := 25) rfl rfl rfl rfl rfl rfl ci_0 (h_fb ci_0 (by omega)) (h_fgt (E := fun s => s 98 15 = 0 ∧ s 98 16 = σ2 98 16 ∧ s 98 17 = σ2 98 17 ∧ s 98 18 = σ2 98 18 ∧ s 98 13 = 0 ∧ s 98 14 = σ2 98 14 ∧ s 98 5 = 0 ∧ s 98 6 = 0 ∧ s 98 7 = 0 ∧ s 98 8 = σ2 98 8 ∧ s 98 9 = σ2 98 9 ∧ s 101 18 = σ2 101 18 ∧ s 101 25 = σ2 101 25 ∧ s 101 43 = σ2 101 43 ∧ s 98 11 = σ2 98 11 ∧ s 98 12 = σ2 98 12 ∧ s 98 29 = σ2 98 29 ∧ s 110 0 = σ2 110 0 ∧ s 110 1 = σ2 110 1 ∧ s 98 1 = σ2 98 1 ∧ s 98 2 = σ2 98 2 ∧ s = h_up s35 98 7 0) _ (if_98_7 Is35 (by omega)) (Fs35.up rfl) ⟨es35.1, es35.2.1, es35.2.2.1, es35.2.2.2.1, es35.2.2.2.2.1, es35.2.2.2.2.2.1, es35.2.2.2.2.2.2.1, es35.2.2.2.2.2.2.2.1, rfl, es35.2.2.2.2.2.2.2.2.2.1, es35.2.2.2.2.2.2.2.2.2.2.1, es35.2.2.2.2.2.2.2.2.2.2.2.1, es35.2.2.2.2.2.2.2.2.2.2.2.2.1, es35.2.2.2.2.2.2.2.2.2.2.2.2.2.1, es35.2.2.2.2.2.2.2.2.2.2.2.2.2.2.1, es35.2.2.2.2.2.2.2.2.2.2.2.2.2.2.2.1, es35.2.2.2.2.2.2.2.2.2.2.2.2.2.2.2.2.1, es35.2.2.2.2.2.2.2.2.2.2.2.2.2.2.2.2.2.1, es35.2.2.2.2.2.2.2.2.2.2.2.2.2.2.2.2.2.2.1, es35.2.2.2.2.2.2.2.2.2.2.2.2.2.2.2.2.2.2.2.1, es35.2.2.2.2.2.2.2.2.2.2.2.2.2.2.2.2.2.2.2.2.1, rfl⟩ (fun s36 Is36 Fs36 (es36 : s36 98 15 = 0 ∧ s36 98 16 = σ2 98 16 ∧ s36 98 17 = σ2 98 17 ∧ s36 98 18 = σ2 98 18 ∧ s36 98 13 = 0 ∧ s36 98 14 = σ2 98 14 ∧ s36 98 5 = 0 ∧ s36 98 6 = 0 ∧ s36 98 7 = 0 ∧ s36 98 8 = σ2 98 8 ∧ s36 98 9 = σ2 98 9 ∧ s36 101 18 = σ2 101 18 ∧ s36 101 25 = σ2 101 25 ∧ s36 101 43 = σ2 101 43 ∧ s36 98 11 = σ2 98 11 ∧ s36 98 12 = σ2 98 12 ∧ s36 98 29 = σ2 98 29 ∧ s36 110 0 = σ2 110 0 ∧ s36 110 1 = σ2 110 1 ∧ s36 98 1 = σ2 98 1 ∧ s36 98 2 = σ2 98 2 ∧ s36 = h_up s35 98 7 0) => ?_))
  clear es35
  have us36 := es36.2.2.2.2.2.2.2.2.2.2.2.2.2.2.2.2.2.2.2.2.2
  refine h_aload_n (pc' := 26) rfl rfl rfl ?_
  refine h_iconst (pc' := 27) (x := (Int32.ofInt (-1))) rfl rfl rfl ?_
  refine h_put (pc' := 30) rfl rfl rfl rfl rfl rfl ci_m1 rfl (h_fgt (E := fun s => s 98 15 = 0 ∧ s 98 16 = σ2 98 16 ∧ s 98 17 = σ2 98 17 ∧ s 98 18 = σ2 98 18 ∧ s 98 13 = 0 ∧ s 98 14 = σ2 98 14 ∧ s 98 5 = 0 ∧ s 98 6 = 0 ∧ s 98 7 = 0 ∧ s 98 8 = (-1) ∧ s 98 9 = σ2 98 9 ∧ s 101 18 = σ2 101 18 ∧ s 101 25 = σ2 101 25 ∧ s 101 43 = σ2 101 43 ∧ s 98 11 = σ2 98 11 ∧ s 98 12 = σ2 98 12 ∧ s 98 29 = σ2 98 29 ∧ s 110 0 = σ2 110 0 ∧ s 110 1 = σ2 110 1 ∧ s 98 1 = σ2 98 1 ∧ s 98 2 = σ2 98 2 ∧ s = h_up s36 98 8 (-1)) _ (if_98_8 Is36 (by omega)) (Fs36.up rfl) ⟨es36.1, es36.2.1, es36.2.2.1, es36.2.2.2.1, es36.2.2.2.2.1, es36.2.2.2.2.2.1, es36.2.2.2.2.2.2.1, es36.2.2.2.2.2.2.2.1, es36.2.2.2.2.2.2.2.2.1, rfl, es36.2.2.2.2.2.2.2.2.2.2.1, es36.2.2.2.2.2.2.2.2.2.2.2.1, es36.2.2.2.2.2.2.2.2.2.2.2.2.1, es36.2.2.2.2.2.2.2.2.2.2.2.2.2.1, es36.2.2.2.2.2.2.2.2.2.2.2.2.2.2.1, es36.2.2.2.2.2.2.2.2.2.2.2.2.2.2.2.1, es36.2.2.2.2.2.2.2.2.2.2.2.2.2.2.2.2.1, es36.2.2.2.2.2.2.2.2.2.2.2.2.2.2.2.2.2.1, es36.2.2.2.2.2.2.2.2.2.2.2.2.2.2.2.2.2.2.1, es36.2.2.2.2.2.2.2.2.2.2.2.2.2.2.2.2.2.2.2.1, es36.2.2.2.2.2.2.2.2.2.2.2.2.2.2.2.2.2.2.2.2.1, rfl⟩ (fun s37 Is37 Fs37 (es37 : s37 98 15 = 0 ∧ s37 98 16 = σ2 98 16 ∧ s37 98 17 = σ2 98 17 ∧ s37 98 18 = σ2 98 18 ∧ s37 98 13 = 0 ∧ s37 98 14 = σ2 98 14 ∧ s37 98 5 = 0 ∧ s37 98 6 = 0 ∧ s37 98 7 = 0 ∧ s37 98 8 = (-1) ∧ s37 98 9 = σ2 98 9 ∧ s37 101 18 = σ2 101 18 ∧ s37 101 25 = σ2 101 25 ∧ s37 101 43 = σ2 101 43 ∧ s37 98 11 = σ2 98 11 ∧ s37 98 12 = σ2 98 12 ∧ s37 98 29 = σ2 98 29 ∧ s37 110 0 = σ2 110 0 ∧ s37 110 1 = σ2 110 1 ∧ s37 98 1 = σ2 98 1 ∧ s37 98 2 = σ2 98 2 ∧ s37 = h_up s36 98 8 (-1)) => ?_))
  clear es36
  have us37 := es37.2.2.2.2.2.2.2.2.2.2.2.2.2.2.2.2.2.2.2.2.2
  refine h_aload_n (pc' := 31) rfl rfl rfl ?_
  refine h_iconst (pc' := 32) (x := (Int32.ofInt (-1))) rfl rfl rfl ?_
  refine h_put (pc' := 35) rfl rfl rfl rfl rfl rfl ci_m1 rfl (h_fgt (E := fun s => s 98 15 = 0 ∧ s 98 16 = σ2 98 16 ∧ s 98 17 = σ2 98 17 ∧ s 98 18 = σ2 98 18 ∧ s 98 13 = 0 ∧ s 98 14 = σ2 98 14 ∧ s 98 5 = 0 ∧ s 98 6 = 0 ∧ s 98 7 = 0 ∧ s 98 8 = (-1) ∧ s 98 9 = (-1) ∧ s 101 18 = σ2 101 18 ∧ s 101 25 = σ2 101 25 ∧ s 101 43 = σ2 101 43 ∧ s 98 11 = σ2 98 11 ∧ s 98 12 = σ2 98 12 ∧ s 98 29 = σ2 98 29 ∧ s 110 0 = σ2 110 0 ∧ s 110 1 = σ2 110 1 ∧ s 98 1 = σ2 98 1 ∧ s 98 2 = σ2 98 2 ∧ s = h_up s37 98 9 (-1)) _ (if_98_9 Is37 (by omega)) (Fs37.up rfl) ⟨es37.1, es37.2.1, es37.2.2.1, es37.2.2.2.1, es37.2.2.2.2.1, es37.2.2.2.2.2.1, es37.2.2.2.2.2.2.1, es37.2.2.2.2.2.2.2.1, es37.2.2.2.2.2.2.2.2.1, es37.2.2.2.2.2.2.2.2.2.1, rfl, es37.2.2.2.2.2.2.2.2.2.2.2.1, es37.2.2.2.2.2.2.2.2.2.2.2.2.1, es37.2.2.2.2.2.2.2.2.2.2.2.2.2.1, es37.2.2.2.2.2.2.2.2.2.2.2.2.2.2.1, es37.2.2.2.2.2.2.2.2.2.2.2.2.2.2.2.1, es37.2.2.2.2.2.2.2.2.2.2.2.2.2.2.2.2.1, es37.2.2.2.2.2.2.2.2.2.2.2.2.2.2.2.2.2.1, es37.2.2.2.2.2.2.2.2.2.2.2.2.2.2.2.2.2.2.1, es37.2.2.2.2.2.2.2.2.2.2.2.2.2.2.2.2.2.2.2.1, es37.2.2.2.2.2.2.2.2.2.2.2.2.2.2.2.2.2.2.2.2.1, rfl⟩ (fun s38 Is38 Fs38 (es38 : s38 98 15 = 0 ∧ s38 98 16 = σ2 98 16 ∧ s38 98 17 = σ2 98 17 ∧ s38 98 18 = σ2 98 18 ∧ s38 98 13 = 0 ∧ s38 98 14 = σ2 98 14 ∧ s38 98 5 = 0 ∧ s38 98 6 = 0 ∧ s38 98 7 = 0 ∧ s38 98 8 = (-1) ∧ s38 98 9 = (-1) ∧ s38 101 18 = σ2 101 18 ∧ s38 101 25 = σ2 101 25 ∧ s38 101 43 = σ2 101 43 ∧ s38 98 11 = σ2 98 11 ∧ s38 98 12 = σ2 98 12 ∧ s38 98 29 = σ2 98 29 ∧ s38 110 0 = σ2 110 0 ∧ s38 110 1 = σ2 110 1 ∧ s38 98 1 = σ2 98 1 ∧ s38 98 2 = σ2 98 2 ∧ s38 = h_up s37 98 9 (-1)) => ?_))
  clear es37
  have us38 := es38.2.2.2.2.2.2.2.2.2.2.2.2.2.2.2.2.2.2.2.2.2
  refine h_iconst (pc' := 36) (x := (Int32.ofInt 0)) rfl rfl rfl ?_
  refine h_istore_n (pc' := 37) (M := [(1, .int (Int32.ofInt 0)), (0, .ref 98)]) rfl rfl rfl rfl ?_
  refine h_iconst (pc' := 38) (x := (Int32.ofInt 0)) rfl rfl rfl ?_
  refine h_istore_n (pc' := 39) (M := [(2, .int (Int32.ofInt 0)), (1, .int (Int32.ofInt 0)), (0, .ref 98)]) rfl rfl rfl rfl ?_
  refine h_wk [(2, .int (Int32.ofInt 0)), (0, .ref 98), (1, .int (Int32.ofInt 0))] ⟨rfl, rfl, rfl, trivial⟩ (lm_z _ Is38 (Int32.ofInt 0) (fun s39 Is39 Gs39 zs39 => ?_))
  have Fs39 := (Gs39.mono (B := k_tm) rfl).tr Fs38
  have es39_0 : s39 98 15 = 0 := (Gs39 98 15 rfl).trans es38.1
  have es39_1 : s39 98 16 = σ2 98 16 := (Gs39 98 16 rfl).trans es38.2.1
  have es39_2 : s39 98 17 = σ2 98 17 := (Gs39 98 17 rfl).trans es38.2.2.1
  have es39_3 : s39 98 18 = σ2 98 18 := (Gs39 98 18 rfl).trans es38.2.2.2.1
  have es39_4 : s39 98 13 = 0 := (Gs39 98 13 rfl).trans es38.2.2.2.2.1
  have es39_5 : s39 98 14 = σ2 98 14 := (Gs39 98 14 rfl).trans es38.2.2.2.2.2.1
  have es39_6 : s39 98 5 = 0 := (Gs39 98 5 rfl).trans es38.2.2.2.2.2.2.1
  have es39_7 : s39 98 6 = 0 := (Gs39 98 6 rfl).trans es38.2.2.2.2.2.2.2.1
  have es39_8 : s39 98 7 = 0 := (Gs39 98 7 rfl).trans es38.2.2.2.2.2.2.2.2.1
  have es39_9 : s39 98 8 = (-1) := (Gs39 98 8 rfl).trans es38.2.2.2.2.2.2.2.2.2.1
  have es39_10 : s39 98 9 = (-1) := (Gs39 98 9 rfl).trans es38.2.2.2.2.2.2.2.2.2.2.1
  have es39_14 : s39 98 11 = σ2 98 11 := (Gs39 98 11 rfl).trans es38.2.2.2.2.2.2.2.2.2.2.2.2.2.2.1
  have es39_15 : s39 98 12 = σ2 98 12 := (Gs39 98 12 rfl).trans es38.2.2.2.2.2.2.2.2.2.2.2.2.2.2.2.1
  have es39_16 : s39 98 29 = σ2 98 29 := (Gs39 98 29 rfl).trans es38.2.2.2.2.2.2.2.2.2.2.2.2.2.2.2.2.1
  have es39_17 : s39 110 0 = σ2 110 0 := (Gs39 110 0 rfl).trans es38.2.2.2.2.2.2.2.2.2.2.2.2.2.2.2.2.2.1
  have es39_18 : s39 110 1 = σ2 110 1 := (Gs39 110 1 rfl).trans es38.2.2.2.2.2.2.2.2.2.2.2.2.2.2.2.2.2.2.1
  have es39_19 : s39 98 1 = σ2 98 1 := (Gs39 98 1 rfl).trans es38.2.2.2.2.2.2.2.2.2.2.2.2.2.2.2.2.2.2.2.1
  have es39_20 : s39 98 2 = σ2 98 2 := (Gs39 98 2 rfl).trans es38.2.2.2.2.2.2.2.2.2.2.2.2.2.2.2.2.2.2.2.2.1
  refine h_aload_n (pc' := 59) rfl rfl rfl ?_
  refine d_pcall (g_inj ns) (m1 := 54) (pc1' := 33) (M1 := [(0, .ref 63)]) (rest1 := []) (m2 := 148) (pc2' := 62) (M2 := [(0, .ref 98)]) (rest2 := []) ⟨false, _, _, _, _, _, _, rfl, rfl, rfl, rfl, rfl, rfl, rfl⟩ ⟨false, _, _, _, _, _, _, rfl, rfl, rfl, rfl, rfl, rfl, rfl⟩ hRw31 ?_
  refine pp_step Is30 Is39 (hTL.fr2 (by omega) (fun i => Fs30 65 i rfl) (fun i => Fs39 102 i rfl) (by omega)) (Int.le_antisymm (by omega) (by omega)) (Int.le_antisymm (by omega) (by omega)) (Int.le_antisymm (by omega) (by omega)) (by omega) (Or.inr ⟨Int.le_antisymm (by omega) (by omega), Int.le_antisymm (by omega) (by omega)⟩) (fun sq40 tq40 Isq40 Itq40 Gsq40 Gtq40 yq40_0 yq40_1 yq40_2 yq40_3 yq40_4 pcq40 memq40 hRq40 => ?_)
  have Fsq40 := (Gsq40.mono (B := k_tx) rfl).tr Fs30
  have Ftq40 := (Gtq40.mono (B := k_tm) rfl).tr Fs39
  have esq40_6 : sq40 64 1 = σ1 64 1 := (Gsq40 64 1 rfl).trans es30.2.2.2.2.2.2.1
  have esq40_7 : sq40 66 8 = 0 := (Gsq40 66 8 rfl).trans es30.2.2.2.2.2.2.2.1
  have esq40_8 : sq40 66 9 = 0 := (Gsq40 66 9 rfl).trans es30.2.2.2.2.2.2.2.2.1
  have esq40_9 : sq40 66 10 = 0 := (Gsq40 66 10 rfl).trans es30.2.2.2.2.2.2.2.2.2.1
  have esq40_10 : sq40 69 2 = 0 := (Gsq40 69 2 rfl).trans es30.2.2.2.2.2.2.2.2.2.2.1
  have esq40_11 : sq40 72 2 = 0 := (Gsq40 72 2 rfl).trans es30.2.2.2.2.2.2.2.2.2.2.2.1
  have esq40_12 : sq40 63 5 = 0 := (Gsq40 63 5 rfl).trans es30.2.2.2.2.2.2.2.2.2.2.2.2.1
  have esq40_13 : sq40 63 4 = 0 := (Gsq40 63 4 rfl).trans es30.2.2.2.2.2.2.2.2.2.2.2.2.2.1
  have esq40_14 : sq40 90 2 = σ1 90 2 := (Gsq40 90 2 rfl).trans es30.2.2.2.2.2.2.2.2.2.2.2.2.2.2.1
  have esq40_15 : sq40 62 0 = σ1 62 0 := (Gsq40 62 0 rfl).trans es30.2.2.2.2.2.2.2.2.2.2.2.2.2.2.2.1
  have esq40_16 : sq40 62 1 = σ1 62 1 := (Gsq40 62 1 rfl).trans es30.2.2.2.2.2.2.2.2.2.2.2.2.2.2.2.2.1
  have etq40_6 : tq40 98 5 = 0 := (Gtq40 98 5 rfl).trans es39_6
  have etq40_7 : tq40 98 6 = 0 := (Gtq40 98 6 rfl).trans es39_7
  have etq40_8 : tq40 98 7 = 0 := (Gtq40 98 7 rfl).trans es39_8
  have etq40_9 : tq40 98 8 = (-1) := (Gtq40 98 8 rfl).trans es39_9
  have etq40_10 : tq40 98 9 = (-1) := (Gtq40 98 9 rfl).trans es39_10
  have etq40_11 : tq40 101 18 = s39 101 18 := (Gtq40 101 18 rfl).trans rfl
  have etq40_12 : tq40 101 25 = s39 101 25 := (Gtq40 101 25 rfl).trans rfl
  have etq40_13 : tq40 101 43 = s39 101 43 := (Gtq40 101 43 rfl).trans rfl
  have etq40_14 : tq40 98 11 = σ2 98 11 := (Gtq40 98 11 rfl).trans es39_14
  have etq40_15 : tq40 98 12 = σ2 98 12 := (Gtq40 98 12 rfl).trans es39_15
  have etq40_16 : tq40 98 29 = σ2 98 29 := (Gtq40 98 29 rfl).trans es39_16
  have etq40_17 : tq40 110 0 = σ2 110 0 := (Gtq40 110 0 rfl).trans es39_17
  have etq40_18 : tq40 110 1 = σ2 110 1 := (Gtq40 110 1 rfl).trans es39_18
  have etq40_19 : tq40 98 1 = σ2 98 1 := (Gtq40 98 1 rfl).trans es39_19
  have etq40_20 : tq40 98 2 = σ2 98 2 := (Gtq40 98 2 rfl).trans es39_20
  show h_T g_P (g_Y ns) 155 62 [(0, .ref 98), (1, .int (Int32.ofInt 0))] [] tq40 _
  refine d_toL (g_inj ns) hlw31 hRq40 (fun lvw41 memw41 hlw41 hRw41 => ?_)
  show h_T g_P (g_Y ns) 52 33 [(0, .ref 63)] [] sq40 _
  refine h_iconst (pc' := 34) (x := (Int32.ofInt 0)) rfl rfl rfl ?_
  refine h_istore_n (pc' := 35) (M := [(1, .int (Int32.ofInt 0)), (0, .ref 63)]) rfl rfl rfl rfl ?_
  refine h_wk [(0, .ref 63), (1, .int (Int32.ofInt 0))] ⟨rfl, rfl, trivial⟩ (lp_tx Isq40 Itq40 (hTL.fr2 (by omega) (fun i => Fsq40 65 i rfl) (fun i => Ftq40 102 i rfl) (by omega)) (fun sq42 tq42 Isq42 Itq42 Gsq42 Gtq42  vmq42_1 amq42_1 hmq42_1 yq42_0 yq42_1 yq42_2 yq42_3 yq42_4 yq42_5 yq42_6 pcq42 lvq42 memq42 hlq42 hRq42 => ?_) 100000 _ _ Isq40 Itq40 h_F.rf h_F.rf (Int32.ofInt 0) _ ci_0 (Int32.ofInt 0) _ ci_0 (Int.le_antisymm (by omega) (by omega)) (Int.le_antisymm (by omega) (by omega)) (Int.le_antisymm (by omega) (by omega)) (by omega) (Int.le_antisymm (by omega) (by omega)) (Int.le_antisymm (by omega) (by omega)) (⟨by omega, by omega⟩) (fun _ => d_init (by omega) (by omega) (by omega) (by omega) (by omega) (by omega) (by omega) (by omega) (by omega) (by omega) (by omega) (fun j a b => (Gtq40 101 j rfl).trans (zs39 j a b))) (pcq40.elim (fun pcq40 => (Or.inl ⟨⟨by omega, by omega⟩, ⟨by omega, by omega⟩, Int.le_antisymm (by omega) (by omega), Int.le_antisymm (by omega) (by omega)⟩)) (fun pcq40 => (pcq40.elim (fun pcq40 => (Or.inr (Or.inl ⟨Int.le_antisymm (by omega) (by omega), Int.le_antisymm (by omega) (by omega), Int.le_antisymm (by omega) (by omega), Int.le_antisymm (by omega) (by omega), Int.le_antisymm (by omega) (by omega)⟩))) (fun pcq40 => (pcq40.elim (fun pcq40 => (Or.inr (Or.inr (Or.inl ⟨Int.le_antisymm (by omega) (by omega), Int.le_antisymm (by omega) (by omega), Int.le_antisymm (by omega) (by omega), Int.le_antisymm (by omega) (by omega), by omega, by omega⟩)))) (fun pcq40 => (pcq40.elim (fun pcq40 => (Or.inr (Or.inr (Or.inr (Or.inl ⟨Int.le_antisymm (by omega) (by omega), Int.le_antisymm (by omega) (by omega), Int.le_antisymm (by omega) (by omega), Int.le_antisymm (by omega) (by omega), ⟨by omega, by omega⟩, ⟨by omega, by omega⟩, Int.le_antisymm (by omega) (by omega), by omega, by omega⟩))))) (fun pcq40 => (Or.inr (Or.inr (Or.inr (Or.inr ⟨Int.le_antisymm (by omega) (by omega), Int.le_antisymm (by omega) (by omega), Int.le_antisymm (by omega) (by omega), Int.le_antisymm (by omega) (by omega), by omega, by omega⟩)))))))))))) (by omega) _ _ (h_al_ok ⟨rfl, rfl, trivial⟩ hlw41) hRw41)
  · have Fsq42 := (Gsq42.mono (B := k_tx) rfl).tr Fsq40
    have Ftq42 := (Gtq42.mono (B := k_tm) rfl).tr Ftq40
    have Isq42 := Isq42
    have Itq42 := Itq42
    have Gsq42 := Gsq42
    have Gtq42 := Gtq42
    have esq42_6 : sq42 64 1 = σ1 64 1 := (Gsq42 64 1 rfl).trans esq40_6
    have esq42_14 : sq42 90 2 = σ1 90 2 := (Gsq42 90 2 rfl).trans esq40_14
    have esq42_15 : sq42 62 0 = σ1 62 0 := (Gsq42 62 0 rfl).trans esq40_15
    have esq42_16 : sq42 62 1 = σ1 62 1 := (Gsq42 62 1 rfl).trans esq40_16
    have etq42_14 : tq42 98 11 = σ2 98 11 := (Gtq42 98 11 rfl).trans etq40_14
    have etq42_15 : tq42 98 12 = σ2 98 12 := (Gtq42 98 12 rfl).trans etq40_15
    have etq42_16 : tq42 98 29 = σ2 98 29 := (Gtq42 98 29 rfl).trans etq40_16
    have etq42_17 : tq42 110 0 = σ2 110 0 := (Gtq42 110 0 rfl).trans etq40_17
    have etq42_18 : tq42 110 1 = σ2 110 1 := (Gtq42 110 1 rfl).trans etq40_18
    have etq42_19 : tq42 98 1 = σ2 98 1 := (Gtq42 98 1 rfl).trans etq40_19
    have etq42_20 : tq42 98 2 = σ2 98 2 := (Gtq42 98 2 rfl).trans etq40_20
    show h_T g_P (g_Y ns) 52 83 [(0, .ref 63)] [] sq42 _
    refine d_toM (g_inj ns) hlq42 hRq42 (fun lvw43 memw43 hlw43 hRw43 => ?_)
    show h_T g_P (g_Y ns) 155 86 [(0, .ref 98), (1, .int vmq42_1)] [] tq42 _
    refine d_toL (g_inj ns) hlw43 hRw43 (fun lvw44 memw44 hlw44 hRw44 => ?_)
    show h_T g_P (g_Y ns) 52 83 [(0, .ref 63)] [] sq42 _
    refine h_wk [(0, .ref 63)] ⟨rfl, trivial⟩ (ls_fin Isq42 Itq42 (hTL.fr2 (by omega) (fun i => Fsq42 65 i rfl) (fun i => Ftq42 102 i rfl) (by omega))  vmq42_1 _ hmq42_1 (Int.le_antisymm (by omega) (by omega)) (Int.le_antisymm (by omega) (by omega)) (Int.le_antisymm (by omega) (by omega)) (by omega) (yq42_6) (pcq42.elim (fun pcq42 => (Or.inl ⟨⟨by omega, by omega⟩, ⟨by omega, by omega⟩, Int.le_antisymm (by omega) (by omega), Int.le_antisymm (by omega) (by omega)⟩)) (fun pcq42 => (Or.inr ⟨Int.le_antisymm (by omega) (by omega), Int.le_antisymm (by omega) (by omega), Int.le_antisymm (by omega) (by omega), Int.le_antisymm (by omega) (by omega), Int.le_antisymm (by omega) (by omega)⟩))) (fun sq45 tq45 Isq45 Itq45 Gsq45 Gtq45   yq45_0 yq45_1 yq45_2 yq45_3 yq45_4 yq45_5 pcq45 lvq45 memq45 hlq45 hRq45 => ?_) _ _ (h_al_ok ⟨rfl, rfl, trivial⟩ hlw44) hRw44)
    · have Fsq45 := (Gsq45.mono (B := k_tx) rfl).tr Fsq42
      have Ftq45 := (Gtq45.mono (B := k_tm) rfl).tr Ftq42
      have Isq45 := Isq45
      have Itq45 := Itq45
      have Gsq45 := Gsq45
      have Gtq45 := Gtq45
      have esq45_6 : sq45 64 1 = σ1 64 1 := (Gsq45 64 1 rfl).trans esq42_6
      have esq45_13 : sq45 63 4 = sq42 63 4 := (Gsq45 63 4 rfl).trans rfl
      have esq45_14 : sq45 90 2 = σ1 90 2 := (Gsq45 90 2 rfl).trans esq42_14
      have esq45_15 : sq45 62 0 = σ1 62 0 := (Gsq45 62 0 rfl).trans esq42_15
      have esq45_16 : sq45 62 1 = σ1 62 1 := (Gsq45 62 1 rfl).trans esq42_16
      have etq45_14 : tq45 98 11 = σ2 98 11 := (Gtq45 98 11 rfl).trans etq42_14
      have etq45_15 : tq45 98 12 = σ2 98 12 := (Gtq45 98 12 rfl).trans etq42_15
      have etq45_16 : tq45 98 29 = σ2 98 29 := (Gtq45 98 29 rfl).trans etq42_16
      have etq45_17 : tq45 110 0 = σ2 110 0 := (Gtq45 110 0 rfl).trans etq42_17
      have etq45_18 : tq45 110 1 = σ2 110 1 := (Gtq45 110 1 rfl).trans etq42_18
      have etq45_19 : tq45 98 1 = σ2 98 1 := (Gtq45 98 1 rfl).trans etq42_19
      have etq45_20 : tq45 98 2 = σ2 98 2 := (Gtq45 98 2 rfl).trans etq42_20
      rcases pcq45 with pcq45 | pcq45
      · show h_T g_P (g_Y ns) 52 113 [(0, .ref 63)] [] sq45 _
        refine h_vret rfl rfl (d_retn hlv21 ?_)
        refine h_aload_n (pc' := 8) rfl rfl rfl ?_
        refine h_getR (pc' := 11) rfl rfl rfl rfl rfl ?_
        refine h_getR (pc' := 14) rfl rfl rfl rfl rfl ?_
        refine h_iconst (pc' := 15) (x := (Int32.ofInt 0)) rfl rfl rfl ?_
        refine h_put (pc' := 18) rfl rfl rfl rfl rfl rfl ci_0 rfl (h_fgt (E := fun s => s 64 2 = sq45 64 2 ∧ s 64 4 = sq45 64 4 ∧ s 64 3 = sq45 64 3 ∧ s 64 5 = sq45 64 5 ∧ s 63 2 = sq45 63 2 ∧ s 63 3 = sq45 63 3 ∧ s 64 1 = 0 ∧ s 66 8 = sq45 66 8 ∧ s 66 9 = sq45 66 9 ∧ s 66 10 = sq45 66 10 ∧ s 69 2 = sq45 69 2 ∧ s 72 2 = sq45 72 2 ∧ s 63 5 = sq45 63 5 ∧ s 63 4 = sq42 63 4 ∧ s 90 2 = σ1 90 2 ∧ s 62 0 = σ1 62 0 ∧ s 62 1 = σ1 62 1 ∧ s = h_up sq45 64 1 0) _ (if_64_1 Isq45 (by omega)) (Fsq45.up rfl) ⟨rfl, rfl, rfl, rfl, rfl, rfl, rfl, rfl, rfl, rfl, rfl, rfl, rfl, esq45_13, esq45_14, esq45_15, esq45_16, rfl⟩ (fun s46 Is46 Fs46 (es46 : s46 64 2 = sq45 64 2 ∧ s46 64 4 = sq45 64 4 ∧ s46 64 3 = sq45 64 3 ∧ s46 64 5 = sq45 64 5 ∧ s46 63 2 = sq45 63 2 ∧ s46 63 3 = sq45 63 3 ∧ s46 64 1 = 0 ∧ s46 66 8 = sq45 66 8 ∧ s46 66 9 = sq45 66 9 ∧ s46 66 10 = sq45 66 10 ∧ s46 69 2 = sq45 69 2 ∧ s46 72 2 = sq45 72 2 ∧ s46 63 5 = sq45 63 5 ∧ s46 63 4 = sq42 63 4 ∧ s46 90 2 = σ1 90 2 ∧ s46 62 0 = σ1 62 0 ∧ s46 62 1 = σ1 62 1 ∧ s46 = h_up sq45 64 1 0) => ?_))
        have us46 := es46.2.2.2.2.2.2.2.2.2.2.2.2.2.2.2.2.2
        refine h_aload_n (pc' := 19) rfl rfl rfl ?_
        refine h_getR (pc' := 22) rfl rfl rfl rfl rfl ?_
        refine h_getI (pc' := 25) (v := sq45 63 2) rfl rfl rfl rfl rfl es46.2.2.2.2.1 (fun z47 hz47 => ?_)
        have tz47 := tf_63_2 Isq45
        refine h_zeq (tg := 39) (pc' := 28) rfl rfl rfl hz47 (fun c48 => absurd c48 (by omega)) (fun c48 => ?_)
        clear hz47
        refine h_bipush (pc' := 30) (x := (Int32.ofInt (-10))) rfl rfl cb_m10 ?_
        refine h_aload_n (pc' := 31) rfl rfl rfl ?_
        refine h_getR (pc' := 34) rfl rfl rfl rfl rfl ?_
        refine h_getI (pc' := 37) (v := sq45 63 3) rfl rfl rfl rfl rfl es46.2.2.2.2.2.1 (fun z49 hz49 => ?_)
        have tz49 := tf_63_3 Isq45
        refine h_isubA (pc' := 38) rfl rfl (fun z50 hz50 => ?_)
        refine d_toM (g_inj ns) hlq45 hRq45 (fun lvw51 memw51 hlw51 hRw51 => ?_)
        show h_T g_P (g_Y ns) 155 121 [(0, .ref 98), (1, .int vmq42_1)] [] tq45 _
        refine h_aload_n (pc' := 122) rfl rfl rfl ?_
        refine h_iconst (pc' := 123) (x := (Int32.ofInt 0)) rfl rfl rfl ?_
        refine h_put (pc' := 126) rfl rfl rfl rfl rfl rfl ci_0 rfl (h_fgt (E := fun s => s 98 15 = tq45 98 15 ∧ s 98 16 = tq45 98 16 ∧ s 98 17 = tq45 98 17 ∧ s 98 18 = tq45 98 18 ∧ s 98 13 = tq45 98 13 ∧ s 98 14 = tq45 98 14 ∧ s 98 5 = tq45 98 5 ∧ s 98 6 = tq45 98 6 ∧ s 98 7 = tq45 98 7 ∧ s 98 8 = tq45 98 8 ∧ s 98 9 = tq45 98 9 ∧ s 101 18 = tq45 101 18 ∧ s 101 25 = tq45 101 25 ∧ s 101 43 = tq45 101 43 ∧ s 98 11 = 0 ∧ s 98 12 = σ2 98 12 ∧ s 98 29 = σ2 98 29 ∧ s 110 0 = σ2 110 0 ∧ s 110 1 = σ2 110 1 ∧ s 98 1 = σ2 98 1 ∧ s 98 2 = σ2 98 2 ∧ s = h_up tq45 98 11 0) _ (if_98_11 Itq45 (by omega)) (Ftq45.up rfl) ⟨rfl, rfl, rfl, rfl, rfl, rfl, rfl, rfl, rfl, rfl, rfl, rfl, rfl, rfl, rfl, etq45_15, etq45_16, etq45_17, etq45_18, etq45_19, etq45_20, rfl⟩ (fun s52 Is52 Fs52 (es52 : s52 98 15 = tq45 98 15 ∧ s52 98 16 = tq45 98 16 ∧ s52 98 17 = tq45 98 17 ∧ s52 98 18 = tq45 98 18 ∧ s52 98 13 = tq45 98 13 ∧ s52 98 14 = tq45 98 14 ∧ s52 98 5 = tq45 98 5 ∧ s52 98 6 = tq45 98 6 ∧ s52 98 7 = tq45 98 7 ∧ s52 98 8 = tq45 98 8 ∧ s52 98 9 = tq45 98 9 ∧ s52 101 18 = tq45 101 18 ∧ s52 101 25 = tq45 101 25 ∧ s52 101 43 = tq45 101 43 ∧ s52 98 11 = 0 ∧ s52 98 12 = σ2 98 12 ∧ s52 98 29 = σ2 98 29 ∧ s52 110 0 = σ2 110 0 ∧ s52 110 1 = σ2 110 1 ∧ s52 98 1 = σ2 98 1 ∧ s52 98 2 = σ2 98 2 ∧ s52 = h_up tq45 98 11 0) => ?_))
        have us52 := es52.2.2.2.2.2.2.2.2.2.2.2.2.2.2.2.2.2.2.2.2.2
        refine h_aload_n (pc' := 127) rfl rfl rfl ?_
        refine h_aload_n (pc' := 128) rfl rfl rfl ?_
        refine h_getI (pc' := 131) (v := tq45 98 13) rfl rfl rfl rfl rfl es52.2.2.2.2.1 (fun z53 hz53 => ?_)
        have tz53 := tf_98_13 Itq45
        refine h_put (pc' := 134) rfl rfl rfl rfl rfl rfl hz53 rfl (h_fgt (E := fun s => s 98 15 = tq45 98 15 ∧ s 98 16 = tq45 98 16 ∧ s 98 17 = tq45 98 17 ∧ s 98 18 = tq45 98 18 ∧ s 98 13 = tq45 98 13 ∧ s 98 14 = tq45 98 14 ∧ s 98 5 = tq45 98 5 ∧ s 98 6 = tq45 98 6 ∧ s 98 7 = tq45 98 7 ∧ s 98 8 = tq45 98 8 ∧ s 98 9 = tq45 98 9 ∧ s 101 18 = tq45 101 18 ∧ s 101 25 = tq45 101 25 ∧ s 101 43 = tq45 101 43 ∧ s 98 11 = 0 ∧ s 98 12 = (tq45 98 13) ∧ s 98 29 = σ2 98 29 ∧ s 110 0 = σ2 110 0 ∧ s 110 1 = σ2 110 1 ∧ s 98 1 = σ2 98 1 ∧ s 98 2 = σ2 98 2 ∧ s = h_up s52 98 12 (tq45 98 13)) _ (if_98_12 Is52 (h_rgv hz53)) (Fs52.up rfl) ⟨es52.1, es52.2.1, es52.2.2.1, es52.2.2.2.1, es52.2.2.2.2.1, es52.2.2.2.2.2.1, es52.2.2.2.2.2.2.1, es52.2.2.2.2.2.2.2.1, es52.2.2.2.2.2.2.2.2.1, es52.2.2.2.2.2.2.2.2.2.1, es52.2.2.2.2.2.2.2.2.2.2.1, es52.2.2.2.2.2.2.2.2.2.2.2.1, es52.2.2.2.2.2.2.2.2.2.2.2.2.1, es52.2.2.2.2.2.2.2.2.2.2.2.2.2.1, es52.2.2.2.2.2.2.2.2.2.2.2.2.2.2.1, rfl, es52.2.2.2.2.2.2.2.2.2.2.2.2.2.2.2.2.1, es52.2.2.2.2.2.2.2.2.2.2.2.2.2.2.2.2.2.1, es52.2.2.2.2.2.2.2.2.2.2.2.2.2.2.2.2.2.2.1, es52.2.2.2.2.2.2.2.2.2.2.2.2.2.2.2.2.2.2.2.1, es52.2.2.2.2.2.2.2.2.2.2.2.2.2.2.2.2.2.2.2.2.1, rfl⟩ (fun s54 Is54 Fs54 (es54 : s54 98 15 = tq45 98 15 ∧ s54 98 16 = tq45 98 16 ∧ s54 98 17 = tq45 98 17 ∧ s54 98 18 = tq45 98 18 ∧ s54 98 13 = tq45 98 13 ∧ s54 98 14 = tq45 98 14 ∧ s54 98 5 = tq45 98 5 ∧ s54 98 6 = tq45 98 6 ∧ s54 98 7 = tq45 98 7 ∧ s54 98 8 = tq45 98 8 ∧ s54 98 9 = tq45 98 9 ∧ s54 101 18 = tq45 101 18 ∧ s54 101 25 = tq45 101 25 ∧ s54 101 43 = tq45 101 43 ∧ s54 98 11 = 0 ∧ s54 98 12 = (tq45 98 13) ∧ s54 98 29 = σ2 98 29 ∧ s54 110 0 = σ2 110 0 ∧ s54 110 1 = σ2 110 1 ∧ s54 98 1 = σ2 98 1 ∧ s54 98 2 = σ2 98 2 ∧ s54 = h_up s52 98 12 (tq45 98 13)) => ?_))
        clear es52
        have us54 := es54.2.2.2.2.2.2.2.2.2.2.2.2.2.2.2.2.2.2.2.2.2
        refine h_aload_n (pc' := 135) rfl rfl rfl ?_
        refine h_getI (pc' := 138) (v := tq45 98 13) rfl rfl rfl rfl rfl es54.2.2.2.2.1 (fun z55 hz55 => ?_)
        refine h_zle (tg := 149) (pc' := 141) rfl rfl rfl hz55 (fun c56 => absurd c56 (by omega)) (fun c56 => ?_)
        clear hz55
        refine h_bipush (pc' := 143) (x := (Int32.ofInt (-10))) rfl rfl cb_m10 ?_
        refine h_aload_n (pc' := 144) rfl rfl rfl ?_
        refine h_getI (pc' := 147) (v := tq45 98 14) rfl rfl rfl rfl rfl es54.2.2.2.2.2.1 (fun z57 hz57 => ?_)
        have tz57 := tf_98_14 Itq45
        refine h_isubA (pc' := 148) rfl rfl (fun z58 hz58 => ?_)
        refine h_iret rfl rfl (d_endM hlw51 hRw51 ?_)
        show h_T g_P (g_Y ns) 84 38 [(0, .ref 9)] [.int z50] s46 _
        exact h_iret rfl rfl (d_cs.nil (kk _ _ rfl _ _ rfl _ _ Is46 Is54 Fs46 Fs54 (by rw [hz50, hz58, h_ieq.mpr (show z49.toInt = z57.toInt by have ga := hz49; have gb := hz57; omega)]) (Int.le_antisymm (by omega) (by omega)) (Int.le_antisymm (by omega) (by omega)) (Int.le_antisymm (by omega) (by omega)) (Int.le_antisymm (by omega) (by omega)) (fun h => absurd h (by omega)) (fun _ => ⟨((c_eq.up us46 rfl).tr ((c_eq.fr Gsq45 rfl).tr ((c_eq.fr Gsq42 rfl).tr ((c_eq.fr Gsq40 rfl).tr ((c_eq.up us30 rfl).tr ((c_eq.up us29 rfl).tr ((c_eq.up us28 rfl).tr ((c_eq.up us27 rfl).tr ((c_eq.up us26 rfl).tr ((c_eq.up us25 rfl).tr ((c_eq.up us24 rfl).tr ((c_eq.up us23 rfl).tr (c_eq.up us22 rfl))))))))))))), fun j => (h_upo us54 rfl j).trans ((h_upo us52 rfl j).trans ((Gtq45 99 j rfl).trans ((Gtq42 99 j rfl).trans ((Gtq40 99 j rfl).trans ((Gs39 99 j rfl).trans ((h_upo us38 rfl j).trans ((h_upo us37 rfl j).trans ((h_upo us36 rfl j).trans ((h_upo us35 rfl j).trans ((h_upo us34 rfl j).trans ((h_upo us33 rfl j).trans (h_upo us32 rfl j)))))))))))), (Int.le_antisymm (by omega) (by omega)), (Int.le_antisymm (by omega) (by omega))⟩) (Or.inl ⟨⟨by omega, by omega⟩, ⟨by omega, by omega⟩, Int.le_antisymm (by omega) (by omega), Int.le_antisymm (by omega) (by omega), Int.le_antisymm (by omega) (by omega), Int.le_antisymm (by omega) (by omega), Int.le_antisymm (by omega) (by omega), Int.le_antisymm (by omega) (by omega)⟩)))
      · show h_T g_P (g_Y ns) 52 113 [(0, .ref 63)] [] sq45 _
        refine h_vret rfl rfl (d_retn hlv21 ?_)
        refine h_aload_n (pc' := 8) rfl rfl rfl ?_
        refine h_getR (pc' := 11) rfl rfl rfl rfl rfl ?_
        refine h_getR (pc' := 14) rfl rfl rfl rfl rfl ?_
        refine h_iconst (pc' := 15) (x := (Int32.ofInt 0)) rfl rfl rfl ?_
        refine h_put (pc' := 18) rfl rfl rfl rfl rfl rfl ci_0 rfl (h_fgt (E := fun s => s 64 2 = sq45 64 2 ∧ s 64 4 = sq45 64 4 ∧ s 64 3 = sq45 64 3 ∧ s 64 5 = sq45 64 5 ∧ s 63 2 = sq45 63 2 ∧ s 63 3 = sq45 63 3 ∧ s 64 1 = 0 ∧ s 66 8 = sq45 66 8 ∧ s 66 9 = sq45 66 9 ∧ s 66 10 = sq45 66 10 ∧ s 69 2 = sq45 69 2 ∧ s 72 2 = sq45 72 2 ∧ s 63 5 = sq45 63 5 ∧ s 63 4 = sq42 63 4 ∧ s 90 2 = σ1 90 2 ∧ s 62 0 = σ1 62 0 ∧ s 62 1 = σ1 62 1 ∧ s = h_up sq45 64 1 0) _ (if_64_1 Isq45 (by omega)) (Fsq45.up rfl) ⟨rfl, rfl, rfl, rfl, rfl, rfl, rfl, rfl, rfl, rfl, rfl, rfl, rfl, esq45_13, esq45_14, esq45_15, esq45_16, rfl⟩ (fun s59 Is59 Fs59 (es59 : s59 64 2 = sq45 64 2 ∧ s59 64 4 = sq45 64 4 ∧ s59 64 3 = sq45 64 3 ∧ s59 64 5 = sq45 64 5 ∧ s59 63 2 = sq45 63 2 ∧ s59 63 3 = sq45 63 3 ∧ s59 64 1 = 0 ∧ s59 66 8 = sq45 66 8 ∧ s59 66 9 = sq45 66 9 ∧ s59 66 10 = sq45 66 10 ∧ s59 69 2 = sq45 69 2 ∧ s59 72 2 = sq45 72 2 ∧ s59 63 5 = sq45 63 5 ∧ s59 63 4 = sq42 63 4 ∧ s59 90 2 = σ1 90 2 ∧ s59 62 0 = σ1 62 0 ∧ s59 62 1 = σ1 62 1 ∧ s59 = h_up sq45 64 1 0) => ?_))
        have us59 := es59.2.2.2.2.2.2.2.2.2.2.2.2.2.2.2.2.2
        refine h_aload_n (pc' := 19) rfl rfl rfl ?_
        refine h_getR (pc' := 22) rfl rfl rfl rfl rfl ?_
        refine h_getI (pc' := 25) (v := sq45 63 2) rfl rfl rfl rfl rfl es59.2.2.2.2.1 (fun z60 hz60 => ?_)
        have tz60 := tf_63_2 Isq45
        refine h_zeq (tg := 39) (pc' := 28) rfl rfl rfl hz60 (fun c61 => ?_) (fun c61 => absurd (Int.le_antisymm (by omega) (by omega)) c61)
        clear hz60
        refine h_aload_n (pc' := 40) rfl rfl rfl ?_
        refine h_getR (pc' := 43) rfl rfl rfl rfl rfl ?_
        refine h_aload_n (pc' := 44) rfl rfl rfl ?_
        refine h_getR (pc' := 47) rfl rfl rfl rfl rfl ?_
        refine h_getR (pc' := 50) rfl rfl rfl rfl rfl ?_
        refine h_call (sp := false) (pc' := 53) (M := [(0, .ref 10), (1, .ref 66)]) rfl rfl rfl rfl rfl rfl rfl rfl ?_
        refine n_copy_10_66 _ Is59  (fun s63 Is63 Gs63 ps63_0 => h_Kn ?_)
        have Fs63 := (Gs63.mono (B := k_tx) rfl).tr Fs59
        have es63_0 : s63 64 2 = sq45 64 2 := (Gs63 64 2 rfl).trans es59.1
        have es63_1 : s63 64 4 = sq45 64 4 := (Gs63 64 4 rfl).trans es59.2.1
        have es63_2 : s63 64 3 = sq45 64 3 := (Gs63 64 3 rfl).trans es59.2.2.1
        have es63_3 : s63 64 5 = sq45 64 5 := (Gs63 64 5 rfl).trans es59.2.2.2.1
        have es63_4 : s63 63 2 = sq45 63 2 := (Gs63 63 2 rfl).trans es59.2.2.2.2.1
        have es63_5 : s63 63 3 = sq45 63 3 := (Gs63 63 3 rfl).trans es59.2.2.2.2.2.1
        have es63_6 : s63 64 1 = 0 := (Gs63 64 1 rfl).trans es59.2.2.2.2.2.2.1
        have es63_7 : s63 66 8 = sq45 66 8 := (Gs63 66 8 rfl).trans es59.2.2.2.2.2.2.2.1
        have es63_8 : s63 66 9 = sq45 66 9 := (Gs63 66 9 rfl).trans es59.2.2.2.2.2.2.2.2.1
        have es63_9 : s63 66 10 = sq45 66 10 := (Gs63 66 10 rfl).trans es59.2.2.2.2.2.2.2.2.2.1
        have es63_10 : s63 69 2 = sq45 69 2 := (Gs63 69 2 rfl).trans es59.2.2.2.2.2.2.2.2.2.2.1
        have es63_11 : s63 72 2 = sq45 72 2 := (Gs63 72 2 rfl).trans es59.2.2.2.2.2.2.2.2.2.2.2.1
        have es63_12 : s63 63 5 = sq45 63 5 := (Gs63 63 5 rfl).trans es59.2.2.2.2.2.2.2.2.2.2.2.2.1
        have es63_13 : s63 63 4 = sq42 63 4 := (Gs63 63 4 rfl).trans es59.2.2.2.2.2.2.2.2.2.2.2.2.2.1
        have es63_14 : s63 90 2 = σ1 90 2 := (Gs63 90 2 rfl).trans es59.2.2.2.2.2.2.2.2.2.2.2.2.2.2.1
        have es63_15 : s63 62 0 = σ1 62 0 := (Gs63 62 0 rfl).trans es59.2.2.2.2.2.2.2.2.2.2.2.2.2.2.2.1
        have es63_16 : s63 62 1 = σ1 62 1 := (Gs63 62 1 rfl).trans es59.2.2.2.2.2.2.2.2.2.2.2.2.2.2.2.2.1
        refine h_aload_n (pc' := 54) rfl rfl rfl ?_
        refine h_getR (pc' := 57) rfl rfl rfl rfl rfl ?_
        refine h_iconst (pc' := 58) (x := (Int32.ofInt 0)) rfl rfl rfl ?_
        refine h_put (pc' := 61) rfl rfl rfl rfl rfl rfl ci_0 rfl (h_fgt (E := fun s => s 64 2 = sq45 64 2 ∧ s 64 4 = sq45 64 4 ∧ s 64 3 = sq45 64 3 ∧ s 64 5 = sq45 64 5 ∧ s 63 2 = sq45 63 2 ∧ s 63 3 = sq45 63 3 ∧ s 64 1 = 0 ∧ s 66 8 = sq45 66 8 ∧ s 66 9 = sq45 66 9 ∧ s 66 10 = sq45 66 10 ∧ s 69 2 = sq45 69 2 ∧ s 72 2 = sq45 72 2 ∧ s 63 5 = sq45 63 5 ∧ s 63 4 = sq42 63 4 ∧ s 90 2 = 0 ∧ s 62 0 = σ1 62 0 ∧ s 62 1 = σ1 62 1 ∧ s = h_up s63 90 2 0) _ (if_90_2 Is63 (by omega)) (Fs63.up rfl) ⟨es63_0, es63_1, es63_2, es63_3, es63_4, es63_5, es63_6, es63_7, es63_8, es63_9, es63_10, es63_11, es63_12, es63_13, rfl, es63_15, es63_16, rfl⟩ (fun s64 Is64 Fs64 (es64 : s64 64 2 = sq45 64 2 ∧ s64 64 4 = sq45 64 4 ∧ s64 64 3 = sq45 64 3 ∧ s64 64 5 = sq45 64 5 ∧ s64 63 2 = sq45 63 2 ∧ s64 63 3 = sq45 63 3 ∧ s64 64 1 = 0 ∧ s64 66 8 = sq45 66 8 ∧ s64 66 9 = sq45 66 9 ∧ s64 66 10 = sq45 66 10 ∧ s64 69 2 = sq45 69 2 ∧ s64 72 2 = sq45 72 2 ∧ s64 63 5 = sq45 63 5 ∧ s64 63 4 = sq42 63 4 ∧ s64 90 2 = 0 ∧ s64 62 0 = σ1 62 0 ∧ s64 62 1 = σ1 62 1 ∧ s64 = h_up s63 90 2 0) => ?_))
        have us64 := es64.2.2.2.2.2.2.2.2.2.2.2.2.2.2.2.2.2
        refine h_aload_n (pc' := 62) rfl rfl rfl ?_
        refine h_getR (pc' := 65) rfl rfl rfl rfl rfl ?_
        refine h_iconst (pc' := 66) (x := (Int32.ofInt 0)) rfl rfl rfl ?_
        refine h_iconst (pc' := 67) (x := (Int32.ofInt 0)) rfl rfl rfl ?_
        refine h_bast (pc' := 68) rfl rfl rfl rfl ci_0 (by omega) (by omega) ci_0 (by omega) (h_fgt (E := fun s => s 64 2 = sq45 64 2 ∧ s 64 4 = sq45 64 4 ∧ s 64 3 = sq45 64 3 ∧ s 64 5 = sq45 64 5 ∧ s 63 2 = sq45 63 2 ∧ s 63 3 = sq45 63 3 ∧ s 64 1 = 0 ∧ s 66 8 = sq45 66 8 ∧ s 66 9 = sq45 66 9 ∧ s 66 10 = sq45 66 10 ∧ s 69 2 = sq45 69 2 ∧ s 72 2 = sq45 72 2 ∧ s 63 5 = sq45 63 5 ∧ s 63 4 = sq42 63 4 ∧ s 90 2 = 0 ∧ s 62 0 = 0 ∧ s 62 1 = σ1 62 1 ∧ s = h_up s64 62 0 0) _ (in_62 Is64 (by omega)) (Fs64.up rfl) ⟨es64.1, es64.2.1, es64.2.2.1, es64.2.2.2.1, es64.2.2.2.2.1, es64.2.2.2.2.2.1, es64.2.2.2.2.2.2.1, es64.2.2.2.2.2.2.2.1, es64.2.2.2.2.2.2.2.2.1, es64.2.2.2.2.2.2.2.2.2.1, es64.2.2.2.2.2.2.2.2.2.2.1, es64.2.2.2.2.2.2.2.2.2.2.2.1, es64.2.2.2.2.2.2.2.2.2.2.2.2.1, es64.2.2.2.2.2.2.2.2.2.2.2.2.2.1, es64.2.2.2.2.2.2.2.2.2.2.2.2.2.2.1, rfl, es64.2.2.2.2.2.2.2.2.2.2.2.2.2.2.2.2.1, rfl⟩ (fun s65 Is65 Fs65 (es65 : s65 64 2 = sq45 64 2 ∧ s65 64 4 = sq45 64 4 ∧ s65 64 3 = sq45 64 3 ∧ s65 64 5 = sq45 64 5 ∧ s65 63 2 = sq45 63 2 ∧ s65 63 3 = sq45 63 3 ∧ s65 64 1 = 0 ∧ s65 66 8 = sq45 66 8 ∧ s65 66 9 = sq45 66 9 ∧ s65 66 10 = sq45 66 10 ∧ s65 69 2 = sq45 69 2 ∧ s65 72 2 = sq45 72 2 ∧ s65 63 5 = sq45 63 5 ∧ s65 63 4 = sq42 63 4 ∧ s65 90 2 = 0 ∧ s65 62 0 = 0 ∧ s65 62 1 = σ1 62 1 ∧ s65 = h_up s64 62 0 0) => ?_))
        clear es64
        have us65 := es65.2.2.2.2.2.2.2.2.2.2.2.2.2.2.2.2.2
        refine h_aload_n (pc' := 69) rfl rfl rfl ?_
        refine h_getR (pc' := 72) rfl rfl rfl rfl rfl ?_
        refine h_iconst (pc' := 73) (x := (Int32.ofInt 1)) rfl rfl rfl ?_
        refine h_iconst (pc' := 74) (x := (Int32.ofInt 0)) rfl rfl rfl ?_
        refine h_bast (pc' := 75) rfl rfl rfl rfl ci_1 (by omega) (by omega) ci_0 (by omega) (h_fgt (E := fun s => s 64 2 = sq45 64 2 ∧ s 64 4 = sq45 64 4 ∧ s 64 3 = sq45 64 3 ∧ s 64 5 = sq45 64 5 ∧ s 63 2 = sq45 63 2 ∧ s 63 3 = sq45 63 3 ∧ s 64 1 = 0 ∧ s 66 8 = sq45 66 8 ∧ s 66 9 = sq45 66 9 ∧ s 66 10 = sq45 66 10 ∧ s 69 2 = sq45 69 2 ∧ s 72 2 = sq45 72 2 ∧ s 63 5 = sq45 63 5 ∧ s 63 4 = sq42 63 4 ∧ s 90 2 = 0 ∧ s 62 0 = 0 ∧ s 62 1 = 0 ∧ s = h_up s65 62 1 0) _ (in_62 Is65 (by omega)) (Fs65.up rfl) ⟨es65.1, es65.2.1, es65.2.2.1, es65.2.2.2.1, es65.2.2.2.2.1, es65.2.2.2.2.2.1, es65.2.2.2.2.2.2.1, es65.2.2.2.2.2.2.2.1, es65.2.2.2.2.2.2.2.2.1, es65.2.2.2.2.2.2.2.2.2.1, es65.2.2.2.2.2.2.2.2.2.2.1, es65.2.2.2.2.2.2.2.2.2.2.2.1, es65.2.2.2.2.2.2.2.2.2.2.2.2.1, es65.2.2.2.2.2.2.2.2.2.2.2.2.2.1, es65.2.2.2.2.2.2.2.2.2.2.2.2.2.2.1, es65.2.2.2.2.2.2.2.2.2.2.2.2.2.2.2.1, rfl, rfl⟩ (fun s66 Is66 Fs66 (es66 : s66 64 2 = sq45 64 2 ∧ s66 64 4 = sq45 64 4 ∧ s66 64 3 = sq45 64 3 ∧ s66 64 5 = sq45 64 5 ∧ s66 63 2 = sq45 63 2 ∧ s66 63 3 = sq45 63 3 ∧ s66 64 1 = 0 ∧ s66 66 8 = sq45 66 8 ∧ s66 66 9 = sq45 66 9 ∧ s66 66 10 = sq45 66 10 ∧ s66 69 2 = sq45 69 2 ∧ s66 72 2 = sq45 72 2 ∧ s66 63 5 = sq45 63 5 ∧ s66 63 4 = sq42 63 4 ∧ s66 90 2 = 0 ∧ s66 62 0 = 0 ∧ s66 62 1 = 0 ∧ s66 = h_up s65 62 1 0) => ?_))
        clear es65
        have us66 := es66.2.2.2.2.2.2.2.2.2.2.2.2.2.2.2.2.2
        refine h_aload_n (pc' := 76) rfl rfl rfl ?_
        refine h_getR (pc' := 79) rfl rfl rfl rfl rfl ?_
        refine h_getI (pc' := 82) (v := sq42 63 4) rfl rfl rfl rfl rfl es66.2.2.2.2.2.2.2.2.2.2.2.2.2.1 (fun z67 hz67 => ?_)
        have tz67 := tf_63_4 Isq42
        refine d_toM (g_inj ns) hlq45 hRq45 (fun lvw68 memw68 hlw68 hRw68 => ?_)
        show h_T g_P (g_Y ns) 155 121 [(0, .ref 98), (1, .int vmq42_1)] [] tq45 _
        refine h_aload_n (pc' := 122) rfl rfl rfl ?_
        refine h_iconst (pc' := 123) (x := (Int32.ofInt 0)) rfl rfl rfl ?_
        refine h_put (pc' := 126) rfl rfl rfl rfl rfl rfl ci_0 rfl (h_fgt (E := fun s => s 98 15 = tq45 98 15 ∧ s 98 16 = tq45 98 16 ∧ s 98 17 = tq45 98 17 ∧ s 98 18 = tq45 98 18 ∧ s 98 13 = tq45 98 13 ∧ s 98 14 = tq45 98 14 ∧ s 98 5 = tq45 98 5 ∧ s 98 6 = tq45 98 6 ∧ s 98 7 = tq45 98 7 ∧ s 98 8 = tq45 98 8 ∧ s 98 9 = tq45 98 9 ∧ s 101 18 = tq45 101 18 ∧ s 101 25 = tq45 101 25 ∧ s 101 43 = tq45 101 43 ∧ s 98 11 = 0 ∧ s 98 12 = σ2 98 12 ∧ s 98 29 = σ2 98 29 ∧ s 110 0 = σ2 110 0 ∧ s 110 1 = σ2 110 1 ∧ s 98 1 = σ2 98 1 ∧ s 98 2 = σ2 98 2 ∧ s = h_up tq45 98 11 0) _ (if_98_11 Itq45 (by omega)) (Ftq45.up rfl) ⟨rfl, rfl, rfl, rfl, rfl, rfl, rfl, rfl, rfl, rfl, rfl, rfl, rfl, rfl, rfl, etq45_15, etq45_16, etq45_17, etq45_18, etq45_19, etq45_20, rfl⟩ (fun s69 Is69 Fs69 (es69 : s69 98 15 = tq45 98 15 ∧ s69 98 16 = tq45 98 16 ∧ s69 98 17 = tq45 98 17 ∧ s69 98 18 = tq45 98 18 ∧ s69 98 13 = tq45 98 13 ∧ s69 98 14 = tq45 98 14 ∧ s69 98 5 = tq45 98 5 ∧ s69 98 6 = tq45 98 6 ∧ s69 98 7 = tq45 98 7 ∧ s69 98 8 = tq45 98 8 ∧ s69 98 9 = tq45 98 9 ∧ s69 101 18 = tq45 101 18 ∧ s69 101 25 = tq45 101 25 ∧ s69 101 43 = tq45 101 43 ∧ s69 98 11 = 0 ∧ s69 98 12 = σ2 98 12 ∧ s69 98 29 = σ2 98 29 ∧ s69 110 0 = σ2 110 0 ∧ s69 110 1 = σ2 110 1 ∧ s69 98 1 = σ2 98 1 ∧ s69 98 2 = σ2 98 2 ∧ s69 = h_up tq45 98 11 0) => ?_))
        have us69 := es69.2.2.2.2.2.2.2.2.2.2.2.2.2.2.2.2.2.2.2.2.2
        refine h_aload_n (pc' := 127) rfl rfl rfl ?_
        refine h_aload_n (pc' := 128) rfl rfl rfl ?_
        refine h_getI (pc' := 131) (v := tq45 98 13) rfl rfl rfl rfl rfl es69.2.2.2.2.1 (fun z70 hz70 => ?_)
        have tz70 := tf_98_13 Itq45
        refine h_put (pc' := 134) rfl rfl rfl rfl rfl rfl hz70 rfl (h_fgt (E := fun s => s 98 15 = tq45 98 15 ∧ s 98 16 = tq45 98 16 ∧ s 98 17 = tq45 98 17 ∧ s 98 18 = tq45 98 18 ∧ s 98 13 = tq45 98 13 ∧ s 98 14 = tq45 98 14 ∧ s 98 5 = tq45 98 5 ∧ s 98 6 = tq45 98 6 ∧ s 98 7 = tq45 98 7 ∧ s 98 8 = tq45 98 8 ∧ s 98 9 = tq45 98 9 ∧ s 101 18 = tq45 101 18 ∧ s 101 25 = tq45 101 25 ∧ s 101 43 = tq45 101 43 ∧ s 98 11 = 0 ∧ s 98 12 = (tq45 98 13) ∧ s 98 29 = σ2 98 29 ∧ s 110 0 = σ2 110 0 ∧ s 110 1 = σ2 110 1 ∧ s 98 1 = σ2 98 1 ∧ s 98 2 = σ2 98 2 ∧ s = h_up s69 98 12 (tq45 98 13)) _ (if_98_12 Is69 (h_rgv hz70)) (Fs69.up rfl) ⟨es69.1, es69.2.1, es69.2.2.1, es69.2.2.2.1, es69.2.2.2.2.1, es69.2.2.2.2.2.1, es69.2.2.2.2.2.2.1, es69.2.2.2.2.2.2.2.1, es69.2.2.2.2.2.2.2.2.1, es69.2.2.2.2.2.2.2.2.2.1, es69.2.2.2.2.2.2.2.2.2.2.1, es69.2.2.2.2.2.2.2.2.2.2.2.1, es69.2.2.2.2.2.2.2.2.2.2.2.2.1, es69.2.2.2.2.2.2.2.2.2.2.2.2.2.1, es69.2.2.2.2.2.2.2.2.2.2.2.2.2.2.1, rfl, es69.2.2.2.2.2.2.2.2.2.2.2.2.2.2.2.2.1, es69.2.2.2.2.2.2.2.2.2.2.2.2.2.2.2.2.2.1, es69.2.2.2.2.2.2.2.2.2.2.2.2.2.2.2.2.2.2.1, es69.2.2.2.2.2.2.2.2.2.2.2.2.2.2.2.2.2.2.2.1, es69.2.2.2.2.2.2.2.2.2.2.2.2.2.2.2.2.2.2.2.2.1, rfl⟩ (fun s71 Is71 Fs71 (es71 : s71 98 15 = tq45 98 15 ∧ s71 98 16 = tq45 98 16 ∧ s71 98 17 = tq45 98 17 ∧ s71 98 18 = tq45 98 18 ∧ s71 98 13 = tq45 98 13 ∧ s71 98 14 = tq45 98 14 ∧ s71 98 5 = tq45 98 5 ∧ s71 98 6 = tq45 98 6 ∧ s71 98 7 = tq45 98 7 ∧ s71 98 8 = tq45 98 8 ∧ s71 98 9 = tq45 98 9 ∧ s71 101 18 = tq45 101 18 ∧ s71 101 25 = tq45 101 25 ∧ s71 101 43 = tq45 101 43 ∧ s71 98 11 = 0 ∧ s71 98 12 = (tq45 98 13) ∧ s71 98 29 = σ2 98 29 ∧ s71 110 0 = σ2 110 0 ∧ s71 110 1 = σ2 110 1 ∧ s71 98 1 = σ2 98 1 ∧ s71 98 2 = σ2 98 2 ∧ s71 = h_up s69 98 12 (tq45 98 13)) => ?_))
        clear es69
        have us71 := es71.2.2.2.2.2.2.2.2.2.2.2.2.2.2.2.2.2.2.2.2.2
        refine h_aload_n (pc' := 135) rfl rfl rfl ?_
        refine h_getI (pc' := 138) (v := tq45 98 13) rfl rfl rfl rfl rfl es71.2.2.2.2.1 (fun z72 hz72 => ?_)
        refine h_zle (tg := 149) (pc' := 141) rfl rfl rfl hz72 (fun c73 => ?_) (fun c73 => absurd c73 (by omega))
        clear hz72
        refine h_iconst (pc' := 150) (x := (Int32.ofInt 0)) rfl rfl rfl ?_
        refine h_istore_n (pc' := 151) (M := [(2, .int (Int32.ofInt 0)), (0, .ref 98), (1, .int vmq42_1)]) rfl rfl rfl rfl ?_
        refine h_wk [(2, .int (Int32.ofInt 0)), (0, .ref 98), (1, .int vmq42_1)] ⟨rfl, rfl, rfl, trivial⟩ (lm_cp _ Is71 vmq42_1 (fun s74 Is74 Gs74 zs74 => ?_))
        have Fs74 := (Gs74.mono (B := k_tm) rfl).tr Fs71
        have es74_0 : s74 98 15 = tq45 98 15 := (Gs74 98 15 rfl).trans es71.1
        have es74_1 : s74 98 16 = tq45 98 16 := (Gs74 98 16 rfl).trans es71.2.1
        have es74_2 : s74 98 17 = tq45 98 17 := (Gs74 98 17 rfl).trans es71.2.2.1
        have es74_3 : s74 98 18 = tq45 98 18 := (Gs74 98 18 rfl).trans es71.2.2.2.1
        have es74_4 : s74 98 13 = tq45 98 13 := (Gs74 98 13 rfl).trans es71.2.2.2.2.1
        have es74_5 : s74 98 14 = tq45 98 14 := (Gs74 98 14 rfl).trans es71.2.2.2.2.2.1
        have es74_6 : s74 98 5 = tq45 98 5 := (Gs74 98 5 rfl).trans es71.2.2.2.2.2.2.1
        have es74_7 : s74 98 6 = tq45 98 6 := (Gs74 98 6 rfl).trans es71.2.2.2.2.2.2.2.1
        have es74_8 : s74 98 7 = tq45 98 7 := (Gs74 98 7 rfl).trans es71.2.2.2.2.2.2.2.2.1
        have es74_9 : s74 98 8 = tq45 98 8 := (Gs74 98 8 rfl).trans es71.2.2.2.2.2.2.2.2.2.1
        have es74_10 : s74 98 9 = tq45 98 9 := (Gs74 98 9 rfl).trans es71.2.2.2.2.2.2.2.2.2.2.1
        have es74_11 : s74 101 18 = tq45 101 18 := (Gs74 101 18 rfl).trans es71.2.2.2.2.2.2.2.2.2.2.2.1
        have es74_12 : s74 101 25 = tq45 101 25 := (Gs74 101 25 rfl).trans es71.2.2.2.2.2.2.2.2.2.2.2.2.1
        have es74_13 : s74 101 43 = tq45 101 43 := (Gs74 101 43 rfl).trans es71.2.2.2.2.2.2.2.2.2.2.2.2.2.1
        have es74_14 : s74 98 11 = 0 := (Gs74 98 11 rfl).trans es71.2.2.2.2.2.2.2.2.2.2.2.2.2.2.1
        have es74_15 : s74 98 12 = (tq45 98 13) := (Gs74 98 12 rfl).trans es71.2.2.2.2.2.2.2.2.2.2.2.2.2.2.2.1
        have es74_16 : s74 98 29 = σ2 98 29 := (Gs74 98 29 rfl).trans es71.2.2.2.2.2.2.2.2.2.2.2.2.2.2.2.2.1
        have es74_17 : s74 110 0 = σ2 110 0 := (Gs74 110 0 rfl).trans es71.2.2.2.2.2.2.2.2.2.2.2.2.2.2.2.2.2.1
        have es74_18 : s74 110 1 = σ2 110 1 := (Gs74 110 1 rfl).trans es71.2.2.2.2.2.2.2.2.2.2.2.2.2.2.2.2.2.2.1
        have es74_19 : s74 98 1 = σ2 98 1 := (Gs74 98 1 rfl).trans es71.2.2.2.2.2.2.2.2.2.2.2.2.2.2.2.2.2.2.2.1
        have es74_20 : s74 98 2 = σ2 98 2 := (Gs74 98 2 rfl).trans es71.2.2.2.2.2.2.2.2.2.2.2.2.2.2.2.2.2.2.2.2.1
        refine h_aload_n (pc' := 176) rfl rfl rfl ?_
        refine h_aload_n (pc' := 177) rfl rfl rfl ?_
        refine h_getI (pc' := 180) (v := tq45 98 5) rfl rfl rfl rfl rfl es74_6 (fun z75 hz75 => ?_)
        have tz75 := tf_98_5 Itq45
        refine h_put (pc' := 183) rfl rfl rfl rfl rfl rfl hz75 rfl (h_fgt (E := fun s => s 98 15 = tq45 98 15 ∧ s 98 16 = tq45 98 16 ∧ s 98 17 = tq45 98 17 ∧ s 98 18 = tq45 98 18 ∧ s 98 13 = tq45 98 13 ∧ s 98 14 = tq45 98 14 ∧ s 98 5 = tq45 98 5 ∧ s 98 6 = tq45 98 6 ∧ s 98 7 = tq45 98 7 ∧ s 98 8 = tq45 98 8 ∧ s 98 9 = tq45 98 9 ∧ s 101 18 = tq45 101 18 ∧ s 101 25 = tq45 101 25 ∧ s 101 43 = tq45 101 43 ∧ s 98 11 = 0 ∧ s 98 12 = (tq45 98 13) ∧ s 98 29 = σ2 98 29 ∧ s 110 0 = σ2 110 0 ∧ s 110 1 = σ2 110 1 ∧ s 98 1 = (tq45 98 5) ∧ s 98 2 = σ2 98 2 ∧ s = h_up s74 98 1 (tq45 98 5)) _ (if_98_1 Is74 (by omega)) (Fs74.up rfl) ⟨es74_0, es74_1, es74_2, es74_3, es74_4, es74_5, es74_6, es74_7, es74_8, es74_9, es74_10, es74_11, es74_12, es74_13, es74_14, es74_15, es74_16, es74_17, es74_18, rfl, es74_20, rfl⟩ (fun s76 Is76 Fs76 (es76 : s76 98 15 = tq45 98 15 ∧ s76 98 16 = tq45 98 16 ∧ s76 98 17 = tq45 98 17 ∧ s76 98 18 = tq45 98 18 ∧ s76 98 13 = tq45 98 13 ∧ s76 98 14 = tq45 98 14 ∧ s76 98 5 = tq45 98 5 ∧ s76 98 6 = tq45 98 6 ∧ s76 98 7 = tq45 98 7 ∧ s76 98 8 = tq45 98 8 ∧ s76 98 9 = tq45 98 9 ∧ s76 101 18 = tq45 101 18 ∧ s76 101 25 = tq45 101 25 ∧ s76 101 43 = tq45 101 43 ∧ s76 98 11 = 0 ∧ s76 98 12 = (tq45 98 13) ∧ s76 98 29 = σ2 98 29 ∧ s76 110 0 = σ2 110 0 ∧ s76 110 1 = σ2 110 1 ∧ s76 98 1 = (tq45 98 5) ∧ s76 98 2 = σ2 98 2 ∧ s76 = h_up s74 98 1 (tq45 98 5)) => ?_))
        have us76 := es76.2.2.2.2.2.2.2.2.2.2.2.2.2.2.2.2.2.2.2.2.2
        refine h_aload_n (pc' := 184) rfl rfl rfl ?_
        refine h_aload_n (pc' := 185) rfl rfl rfl ?_
        refine h_getI (pc' := 188) (v := tq45 98 6) rfl rfl rfl rfl rfl es76.2.2.2.2.2.2.2.1 (fun z77 hz77 => ?_)
        have tz77 := tf_98_6 Itq45
        refine h_put (pc' := 191) rfl rfl rfl rfl rfl rfl hz77 rfl (h_fgt (E := fun s => s 98 15 = tq45 98 15 ∧ s 98 16 = tq45 98 16 ∧ s 98 17 = tq45 98 17 ∧ s 98 18 = tq45 98 18 ∧ s 98 13 = tq45 98 13 ∧ s 98 14 = tq45 98 14 ∧ s 98 5 = tq45 98 5 ∧ s 98 6 = tq45 98 6 ∧ s 98 7 = tq45 98 7 ∧ s 98 8 = tq45 98 8 ∧ s 98 9 = tq45 98 9 ∧ s 101 18 = tq45 101 18 ∧ s 101 25 = tq45 101 25 ∧ s 101 43 = tq45 101 43 ∧ s 98 11 = 0 ∧ s 98 12 = (tq45 98 13) ∧ s 98 29 = σ2 98 29 ∧ s 110 0 = σ2 110 0 ∧ s 110 1 = σ2 110 1 ∧ s 98 1 = (tq45 98 5) ∧ s 98 2 = (tq45 98 6) ∧ s = h_up s76 98 2 (tq45 98 6)) _ (if_98_2 Is76 (by omega)) (Fs76.up rfl) ⟨es76.1, es76.2.1, es76.2.2.1, es76.2.2.2.1, es76.2.2.2.2.1, es76.2.2.2.2.2.1, es76.2.2.2.2.2.2.1, es76.2.2.2.2.2.2.2.1, es76.2.2.2.2.2.2.2.2.1, es76.2.2.2.2.2.2.2.2.2.1, es76.2.2.2.2.2.2.2.2.2.2.1, es76.2.2.2.2.2.2.2.2.2.2.2.1, es76.2.2.2.2.2.2.2.2.2.2.2.2.1, es76.2.2.2.2.2.2.2.2.2.2.2.2.2.1, es76.2.2.2.2.2.2.2.2.2.2.2.2.2.2.1, es76.2.2.2.2.2.2.2.2.2.2.2.2.2.2.2.1, es76.2.2.2.2.2.2.2.2.2.2.2.2.2.2.2.2.1, es76.2.2.2.2.2.2.2.2.2.2.2.2.2.2.2.2.2.1, es76.2.2.2.2.2.2.2.2.2.2.2.2.2.2.2.2.2.2.1, es76.2.2.2.2.2.2.2.2.2.2.2.2.2.2.2.2.2.2.2.1, rfl, rfl⟩ (fun s78 Is78 Fs78 (es78 : s78 98 15 = tq45 98 15 ∧ s78 98 16 = tq45 98 16 ∧ s78 98 17 = tq45 98 17 ∧ s78 98 18 = tq45 98 18 ∧ s78 98 13 = tq45 98 13 ∧ s78 98 14 = tq45 98 14 ∧ s78 98 5 = tq45 98 5 ∧ s78 98 6 = tq45 98 6 ∧ s78 98 7 = tq45 98 7 ∧ s78 98 8 = tq45 98 8 ∧ s78 98 9 = tq45 98 9 ∧ s78 101 18 = tq45 101 18 ∧ s78 101 25 = tq45 101 25 ∧ s78 101 43 = tq45 101 43 ∧ s78 98 11 = 0 ∧ s78 98 12 = (tq45 98 13) ∧ s78 98 29 = σ2 98 29 ∧ s78 110 0 = σ2 110 0 ∧ s78 110 1 = σ2 110 1 ∧ s78 98 1 = (tq45 98 5) ∧ s78 98 2 = (tq45 98 6) ∧ s78 = h_up s76 98 2 (tq45 98 6)) => ?_))
        clear es76
        have us78 := es78.2.2.2.2.2.2.2.2.2.2.2.2.2.2.2.2.2.2.2.2.2
        refine h_aload_n (pc' := 192) rfl rfl rfl ?_
        refine h_iconst (pc' := 193) (x := (Int32.ofInt 0)) rfl rfl rfl ?_
        refine h_put (pc' := 196) rfl rfl rfl rfl rfl rfl ci_0 rfl (h_fgt (E := fun s => s 98 15 = tq45 98 15 ∧ s 98 16 = tq45 98 16 ∧ s 98 17 = tq45 98 17 ∧ s 98 18 = tq45 98 18 ∧ s 98 13 = tq45 98 13 ∧ s 98 14 = tq45 98 14 ∧ s 98 5 = tq45 98 5 ∧ s 98 6 = tq45 98 6 ∧ s 98 7 = tq45 98 7 ∧ s 98 8 = tq45 98 8 ∧ s 98 9 = tq45 98 9 ∧ s 101 18 = tq45 101 18 ∧ s 101 25 = tq45 101 25 ∧ s 101 43 = tq45 101 43 ∧ s 98 11 = 0 ∧ s 98 12 = (tq45 98 13) ∧ s 98 29 = 0 ∧ s 110 0 = σ2 110 0 ∧ s 110 1 = σ2 110 1 ∧ s 98 1 = (tq45 98 5) ∧ s 98 2 = (tq45 98 6) ∧ s = h_up s78 98 29 0) _ (if_98_29 Is78 (by omega)) (Fs78.up rfl) ⟨es78.1, es78.2.1, es78.2.2.1, es78.2.2.2.1, es78.2.2.2.2.1, es78.2.2.2.2.2.1, es78.2.2.2.2.2.2.1, es78.2.2.2.2.2.2.2.1, es78.2.2.2.2.2.2.2.2.1, es78.2.2.2.2.2.2.2.2.2.1, es78.2.2.2.2.2.2.2.2.2.2.1, es78.2.2.2.2.2.2.2.2.2.2.2.1, es78.2.2.2.2.2.2.2.2.2.2.2.2.1, es78.2.2.2.2.2.2.2.2.2.2.2.2.2.1, es78.2.2.2.2.2.2.2.2.2.2.2.2.2.2.1, es78.2.2.2.2.2.2.2.2.2.2.2.2.2.2.2.1, rfl, es78.2.2.2.2.2.2.2.2.2.2.2.2.2.2.2.2.2.1, es78.2.2.2.2.2.2.2.2.2.2.2.2.2.2.2.2.2.2.1, es78.2.2.2.2.2.2.2.2.2.2.2.2.2.2.2.2.2.2.2.1, es78.2.2.2.2.2.2.2.2.2.2.2.2.2.2.2.2.2.2.2.2.1, rfl⟩ (fun s79 Is79 Fs79 (es79 : s79 98 15 = tq45 98 15 ∧ s79 98 16 = tq45 98 16 ∧ s79 98 17 = tq45 98 17 ∧ s79 98 18 = tq45 98 18 ∧ s79 98 13 = tq45 98 13 ∧ s79 98 14 = tq45 98 14 ∧ s79 98 5 = tq45 98 5 ∧ s79 98 6 = tq45 98 6 ∧ s79 98 7 = tq45 98 7 ∧ s79 98 8 = tq45 98 8 ∧ s79 98 9 = tq45 98 9 ∧ s79 101 18 = tq45 101 18 ∧ s79 101 25 = tq45 101 25 ∧ s79 101 43 = tq45 101 43 ∧ s79 98 11 = 0 ∧ s79 98 12 = (tq45 98 13) ∧ s79 98 29 = 0 ∧ s79 110 0 = σ2 110 0 ∧ s79 110 1 = σ2 110 1 ∧ s79 98 1 = (tq45 98 5) ∧ s79 98 2 = (tq45 98 6) ∧ s79 = h_up s78 98 29 0) => ?_))
        clear es78
        have us79 := es79.2.2.2.2.2.2.2.2.2.2.2.2.2.2.2.2.2.2.2.2.2
        refine h_aload_n (pc' := 197) rfl rfl rfl ?_
        refine h_getR (pc' := 200) rfl rfl rfl rfl rfl ?_
        refine h_iconst (pc' := 201) (x := (Int32.ofInt 0)) rfl rfl rfl ?_
        refine h_iconst (pc' := 202) (x := (Int32.ofInt 0)) rfl rfl rfl ?_
        refine h_bast (pc' := 203) rfl rfl rfl rfl ci_0 (by omega) (by omega) ci_0 (by omega) (h_fgt (E := fun s => s 98 15 = tq45 98 15 ∧ s 98 16 = tq45 98 16 ∧ s 98 17 = tq45 98 17 ∧ s 98 18 = tq45 98 18 ∧ s 98 13 = tq45 98 13 ∧ s 98 14 = tq45 98 14 ∧ s 98 5 = tq45 98 5 ∧ s 98 6 = tq45 98 6 ∧ s 98 7 = tq45 98 7 ∧ s 98 8 = tq45 98 8 ∧ s 98 9 = tq45 98 9 ∧ s 101 18 = tq45 101 18 ∧ s 101 25 = tq45 101 25 ∧ s 101 43 = tq45 101 43 ∧ s 98 11 = 0 ∧ s 98 12 = (tq45 98 13) ∧ s 98 29 = 0 ∧ s 110 0 = 0 ∧ s 110 1 = σ2 110 1 ∧ s 98 1 = (tq45 98 5) ∧ s 98 2 = (tq45 98 6) ∧ s = h_up s79 110 0 0) _ (in_110 Is79 (by omega)) (Fs79.up rfl) ⟨es79.1, es79.2.1, es79.2.2.1, es79.2.2.2.1, es79.2.2.2.2.1, es79.2.2.2.2.2.1, es79.2.2.2.2.2.2.1, es79.2.2.2.2.2.2.2.1, es79.2.2.2.2.2.2.2.2.1, es79.2.2.2.2.2.2.2.2.2.1, es79.2.2.2.2.2.2.2.2.2.2.1, es79.2.2.2.2.2.2.2.2.2.2.2.1, es79.2.2.2.2.2.2.2.2.2.2.2.2.1, es79.2.2.2.2.2.2.2.2.2.2.2.2.2.1, es79.2.2.2.2.2.2.2.2.2.2.2.2.2.2.1, es79.2.2.2.2.2.2.2.2.2.2.2.2.2.2.2.1, es79.2.2.2.2.2.2.2.2.2.2.2.2.2.2.2.2.1, rfl, es79.2.2.2.2.2.2.2.2.2.2.2.2.2.2.2.2.2.2.1, es79.2.2.2.2.2.2.2.2.2.2.2.2.2.2.2.2.2.2.2.1, es79.2.2.2.2.2.2.2.2.2.2.2.2.2.2.2.2.2.2.2.2.1, rfl⟩ (fun s80 Is80 Fs80 (es80 : s80 98 15 = tq45 98 15 ∧ s80 98 16 = tq45 98 16 ∧ s80 98 17 = tq45 98 17 ∧ s80 98 18 = tq45 98 18 ∧ s80 98 13 = tq45 98 13 ∧ s80 98 14 = tq45 98 14 ∧ s80 98 5 = tq45 98 5 ∧ s80 98 6 = tq45 98 6 ∧ s80 98 7 = tq45 98 7 ∧ s80 98 8 = tq45 98 8 ∧ s80 98 9 = tq45 98 9 ∧ s80 101 18 = tq45 101 18 ∧ s80 101 25 = tq45 101 25 ∧ s80 101 43 = tq45 101 43 ∧ s80 98 11 = 0 ∧ s80 98 12 = (tq45 98 13) ∧ s80 98 29 = 0 ∧ s80 110 0 = 0 ∧ s80 110 1 = σ2 110 1 ∧ s80 98 1 = (tq45 98 5) ∧ s80 98 2 = (tq45 98 6) ∧ s80 = h_up s79 110 0 0) => ?_))
        clear es79
        have us80 := es80.2.2.2.2.2.2.2.2.2.2.2.2.2.2.2.2.2.2.2.2.2
        refine h_aload_n (pc' := 204) rfl rfl rfl ?_
        refine h_getR (pc' := 207) rfl rfl rfl rfl rfl ?_
        refine h_iconst (pc' := 208) (x := (Int32.ofInt 1)) rfl rfl rfl ?_
        refine h_iconst (pc' := 209) (x := (Int32.ofInt 0)) rfl rfl rfl ?_
        refine h_bast (pc' := 210) rfl rfl rfl rfl ci_1 (by omega) (by omega) ci_0 (by omega) (h_fgt (E := fun s => s 98 15 = tq45 98 15 ∧ s 98 16 = tq45 98 16 ∧ s 98 17 = tq45 98 17 ∧ s 98 18 = tq45 98 18 ∧ s 98 13 = tq45 98 13 ∧ s 98 14 = tq45 98 14 ∧ s 98 5 = tq45 98 5 ∧ s 98 6 = tq45 98 6 ∧ s 98 7 = tq45 98 7 ∧ s 98 8 = tq45 98 8 ∧ s 98 9 = tq45 98 9 ∧ s 101 18 = tq45 101 18 ∧ s 101 25 = tq45 101 25 ∧ s 101 43 = tq45 101 43 ∧ s 98 11 = 0 ∧ s 98 12 = (tq45 98 13) ∧ s 98 29 = 0 ∧ s 110 0 = 0 ∧ s 110 1 = 0 ∧ s 98 1 = (tq45 98 5) ∧ s 98 2 = (tq45 98 6) ∧ s = h_up s80 110 1 0) _ (in_110 Is80 (by omega)) (Fs80.up rfl) ⟨es80.1, es80.2.1, es80.2.2.1, es80.2.2.2.1, es80.2.2.2.2.1, es80.2.2.2.2.2.1, es80.2.2.2.2.2.2.1, es80.2.2.2.2.2.2.2.1, es80.2.2.2.2.2.2.2.2.1, es80.2.2.2.2.2.2.2.2.2.1, es80.2.2.2.2.2.2.2.2.2.2.1, es80.2.2.2.2.2.2.2.2.2.2.2.1, es80.2.2.2.2.2.2.2.2.2.2.2.2.1, es80.2.2.2.2.2.2.2.2.2.2.2.2.2.1, es80.2.2.2.2.2.2.2.2.2.2.2.2.2.2.1, es80.2.2.2.2.2.2.2.2.2.2.2.2.2.2.2.1, es80.2.2.2.2.2.2.2.2.2.2.2.2.2.2.2.2.1, es80.2.2.2.2.2.2.2.2.2.2.2.2.2.2.2.2.2.1, rfl, es80.2.2.2.2.2.2.2.2.2.2.2.2.2.2.2.2.2.2.2.1, es80.2.2.2.2.2.2.2.2.2.2.2.2.2.2.2.2.2.2.2.2.1, rfl⟩ (fun s81 Is81 Fs81 (es81 : s81 98 15 = tq45 98 15 ∧ s81 98 16 = tq45 98 16 ∧ s81 98 17 = tq45 98 17 ∧ s81 98 18 = tq45 98 18 ∧ s81 98 13 = tq45 98 13 ∧ s81 98 14 = tq45 98 14 ∧ s81 98 5 = tq45 98 5 ∧ s81 98 6 = tq45 98 6 ∧ s81 98 7 = tq45 98 7 ∧ s81 98 8 = tq45 98 8 ∧ s81 98 9 = tq45 98 9 ∧ s81 101 18 = tq45 101 18 ∧ s81 101 25 = tq45 101 25 ∧ s81 101 43 = tq45 101 43 ∧ s81 98 11 = 0 ∧ s81 98 12 = (tq45 98 13) ∧ s81 98 29 = 0 ∧ s81 110 0 = 0 ∧ s81 110 1 = 0 ∧ s81 98 1 = (tq45 98 5) ∧ s81 98 2 = (tq45 98 6) ∧ s81 = h_up s80 110 1 0) => ?_))
        clear es80
        have us81 := es81.2.2.2.2.2.2.2.2.2.2.2.2.2.2.2.2.2.2.2.2.2
        refine h_iload_n (pc' := 211) rfl rfl rfl ?_
        refine h_iret rfl rfl (d_endM hlw68 hRw68 ?_)
        show h_T g_P (g_Y ns) 84 82 [(0, .ref 9)] [.int z67] s66 _
        exact h_iret rfl rfl (d_cs.nil (kk _ _ hz67 _ _ hmq42_1 _ _ Is66 Is81 Fs66 Fs81 (by omega) (Int.le_antisymm (by omega) (by omega)) (Int.le_antisymm (by omega) (by omega)) (Int.le_antisymm (by omega) (by omega)) (Int.le_antisymm (by omega) (by omega)) (fun _ => d_txt (yq45_4 (by omega)) (yq45_5 (by omega)) Isq45 (((c_eq.up us66 rfl).tr ((c_eq.up us65 rfl).tr (c_eq.up us64 rfl))).tr (ps63_0.tr (c_eq.up us59 rfl))) (fun j a b => ((h_upo us81 rfl j).trans ((h_upo us80 rfl j).trans ((h_upo us79 rfl j).trans ((h_upo us78 rfl j).trans (h_upo us76 rfl j))))).trans ((zs74 j a b).trans ((h_upo us71 rfl j).trans (h_upo us69 rfl j)))) (Int.le_antisymm (by omega) (by omega)) (Int.le_antisymm (by omega) (by omega))) (fun h => absurd h (by omega)) (Or.inr ⟨Int.le_antisymm (by omega) (by omega), Int.le_antisymm (by omega) (by omega), Int.le_antisymm (by omega) (by omega), Int.le_antisymm (by omega) (by omega), Int.le_antisymm (by omega) (by omega), Int.le_antisymm (by omega) (by omega), Int.le_antisymm (by omega) (by omega), Int.le_antisymm (by omega) (by omega)⟩)))
