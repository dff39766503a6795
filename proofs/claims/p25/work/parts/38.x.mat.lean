def kf_n_linkAll_23 : List Nat := [82943, 83967]
set_option maxHeartbeats 100000000 in
set_option maxHeartbeats 100000000 in
theorem n_linkAll_23_l (ns : Nat) (σ : h_S) (hI : h_I σ) (pr0 : σ 79 2 = σ 23 8) {Q : Option Value → h_S → Prop} (kk : ∀ (τ : h_S), h_I τ → h_F (k_in kf_n_linkAll_23) τ σ → (τ 80 = g_n1 (σ 23 8) (σ 25) (σ 24) (σ 26 2) (σ 27) (σ 28) 0 (σ 80)) → (g_fk (σ 30) (σ 31) (σ 29 2) (σ 81) (τ 81)) → Q none τ) : ∀ n : Nat, (∀ (s0 : h_S), h_I s0 → h_F (k_in kf_n_linkAll_23) s0 σ → ∀ (y2 : Int32) (b2 : Int), y2.toInt = b2 → (0 ≤ b2 ∧ b2 ≤ 6) → (g_n1 (σ 23 8) (σ 25) (σ 24) (σ 26 2) (σ 27) (σ 28) b2 (s0 80) = g_n1 (σ 23 8) (σ 25) (σ 24) (σ 26 2) (σ 27) (σ 28) 0 (σ 80)) → (s0 81 = σ 81) → (6 + 1 - b2) * 1000000 + 3000000000 ≤ (n : Int) → h_T g_P (g_Y ns) 24 2 [(0, .ref 79), (1, .ref 23), (2, .int y2)] [] s0 Q) ∧ (∀ (s0 : h_S), h_I s0 → h_F (k_in kf_n_linkAll_23) s0 σ → ∀ (y2 : Int32) (b2 : Int), y2.toInt = b2 → (0 ≤ b2 ∧ b2 ≤ 3) → (g_n2 (σ 26 2) (σ 27) (σ 28) b2 (s0 80) = g_n1 (σ 23 8) (σ 25) (σ 24) (σ 26 2) (σ 27) (σ 28) 0 (σ 80)) → (s0 81 = σ 81) → (3 + 1 - b2) * 1000000 + 2000000000 ≤ (n : Int) → h_T g_P (g_Y ns) 24 51 [(0, .ref 79), (1, .ref 23), (2, .int y2)] [] s0 Q) ∧ (∀ (s0 : h_S), h_I s0 → h_F (k_in kf_n_linkAll_23) s0 σ → ∀ (y2 : Int32) (b2 : Int), y2.toInt = b2 → (0 ≤ b2 ∧ b2 ≤ 3) → (s0 80 = g_n1 (σ 23 8) (σ 25) (σ 24) (σ 26 2) (σ 27) (σ 28) 0 (σ 80)) → (g_fk (σ 30) (σ 31) b2 (σ 81) (s0 81)) → (b2 ≤ σ 29 2) → (3 + 1 - b2) * 1000000 + 1000000000 ≤ (n : Int) → h_T g_P (g_Y ns) 24 93 [(0, .ref 79), (1, .ref 23), (2, .int y2)] [] s0 Q) := by
  intro n
  induction n with
  | zero => exact ⟨by intro s0 I0 F0_ y2 b2 hy2 ry2 ex0 ex1 hm; have gh0 := F0_ 79 2 rfl; have gh1 := F0_ 23 8 rfl; have gh2 := F0_ 26 2 rfl; have gh3 := F0_ 29 2 rfl; have gh4 := tf_23_8 hI; have gh5 := tf_26_2 hI; have gh6 := tf_29_2 hI; have gh7 := pr0; exfalso; omega, by intro s0 I0 F0_ y2 b2 hy2 ry2 ex0 ex1 hm; have gh0 := F0_ 79 2 rfl; have gh1 := F0_ 23 8 rfl; have gh2 := F0_ 26 2 rfl; have gh3 := F0_ 29 2 rfl; have gh4 := tf_23_8 hI; have gh5 := tf_26_2 hI; have gh6 := tf_29_2 hI; have gh7 := pr0; exfalso; omega, by intro s0 I0 F0_ y2 b2 hy2 ry2 ex0 ex1 ex2 hm; have gh0 := F0_ 79 2 rfl; have gh1 := F0_ 23 8 rfl; have gh2 := F0_ 26 2 rfl; have gh3 := F0_ 29 2 rfl; have gh4 := tf_23_8 hI; have gh5 := tf_26_2 hI; have gh6 := tf_29_2 hI; have gh7 := pr0; exfalso; omega⟩
  | succ n ih =>
    refine ⟨?_, ?_, ?_⟩
    · intro s0 I0 F0_ y2 b2 hy2 ry2 ex0 ex1 hm; have gh0 := F0_ 79 2 rfl; have gh1 := F0_ 23 8 rfl; have gh2 := F0_ 26 2 rfl; have gh3 := F0_ 29 2 rfl; have gh4 := tf_23_8 hI; have gh5 := tf_26_2 hI; have gh6 := tf_29_2 hI; have gh7 := pr0
      refine h_iload_n (pc' := 3) rfl rfl rfl ?_
      refine h_aload_n (pc' := 4) rfl rfl rfl ?_
      refine h_getI (pc' := 7) (v := σ 79 2) rfl rfl rfl rfl rfl (F0_ 79 2 rfl) (fun z1 hz1 => ?_)
      have tz1 := tf_79_2 hI
      refine h_cge (tg := 49) (pc' := 10) rfl rfl rfl hy2 hz1 (fun c2 => ?_) (fun c2 => ?_)
      · refine h_iconst (pc' := 50) (x := (Int32.ofInt 0)) rfl rfl rfl ?_
        refine h_istore_n (pc' := 51) (M := [(2, .int (Int32.ofInt 0)), (0, .ref 79), (1, .ref 23)]) rfl rfl rfl rfl ?_
        exact h_wk [(0, .ref 79), (1, .ref 23), (2, .int (Int32.ofInt 0))] ⟨rfl, rfl, rfl, trivial⟩ (ih.2.1 _ I0 F0_ (Int32.ofInt 0) _ ci_0 (by omega) (g_n1_o ex0 (by omega) rfl) ex1 (by omega))
      · refine h_aload_n (pc' := 11) rfl rfl rfl ?_
        refine h_aload_n (pc' := 12) rfl rfl rfl ?_
        refine h_getR (pc' := 15) rfl rfl rfl rfl rfl ?_
        refine h_iload_n (pc' := 16) rfl rfl rfl ?_
        refine h_iald (pc' := 17) (v := σ 25 b2) rfl rfl rfl hy2 (by omega) (by omega) (F0_ 25 _ rfl) (fun z3 hz3 => ?_)
        have tz3 := ty_25 hI b2
        refine h_call (sp := false) (pc' := 20) (M := [(0, .ref 23), (1, .int z3)]) rfl rfl rfl rfl rfl rfl rfl rfl ?_
        refine h_iload_n (pc' := 1) rfl rfl rfl ?_
        refine h_zlt (tg := 16) (pc' := 4) rfl rfl rfl hz3 (fun c4 => ?_) (fun c4 => ?_)
        · refine h_iconst (pc' := 17) (x := (Int32.ofInt 0)) rfl rfl rfl ?_
          refine h_zret rfl rfl ci_0 (by omega) (h_Kv ?_)
          refine h_zeq (tg := 43) (pc' := 23) rfl rfl rfl ci_0 (fun c5 => ?_) (fun c5 => absurd c5 (by omega))
          refine h_iinc (pc' := 46) (M := fun z6 => [(2, .int z6), (0, .ref 79), (1, .ref 23)]) rfl rfl rfl rfl hy2 ci_1 rfl (by omega) (by omega) (fun _ => rfl) (fun z6 hz6 => ?_)
          refine h_goto (pc' := 2) rfl rfl ?_
          exact h_wk [(0, .ref 79), (1, .ref 23), (2, .int z6)] ⟨rfl, rfl, rfl, trivial⟩ (ih.1 _ I0 F0_ z6 _ hz6 (by omega) (g_n1_n ex0 (by omega) (by omega) (by omega) rfl (by omega) rfl) ex1 (by omega))
        · refine h_iload_n (pc' := 5) rfl rfl rfl ?_
          refine h_aload_n (pc' := 6) rfl rfl rfl ?_
          refine h_getI (pc' := 9) (v := σ 23 8) rfl rfl rfl rfl rfl (F0_ 23 8 rfl) (fun z7 hz7 => ?_)
          have tz7 := tf_23_8 hI
          refine h_cge (tg := 16) (pc' := 12) rfl rfl rfl hz3 hz7 (fun c8 => ?_) (fun c8 => ?_)
          · refine h_iconst (pc' := 17) (x := (Int32.ofInt 0)) rfl rfl rfl ?_
            refine h_zret rfl rfl ci_0 (by omega) (h_Kv ?_)
            refine h_zeq (tg := 43) (pc' := 23) rfl rfl rfl ci_0 (fun c9 => ?_) (fun c9 => absurd c9 (by omega))
            refine h_iinc (pc' := 46) (M := fun z10 => [(2, .int z10), (0, .ref 79), (1, .ref 23)]) rfl rfl rfl rfl hy2 ci_1 rfl (by omega) (by omega) (fun _ => rfl) (fun z10 hz10 => ?_)
            refine h_goto (pc' := 2) rfl rfl ?_
            exact h_wk [(0, .ref 79), (1, .ref 23), (2, .int z10)] ⟨rfl, rfl, rfl, trivial⟩ (ih.1 _ I0 F0_ z10 _ hz10 (by omega) (g_n1_n ex0 (by omega) (by omega) (by omega) rfl (by omega) rfl) ex1 (by omega))
          · refine h_iconst (pc' := 13) (x := (Int32.ofInt 1)) rfl rfl rfl ?_
            refine h_goto (pc' := 17) rfl rfl ?_
            refine h_zret rfl rfl ci_1 (by omega) (h_Kv ?_)
            refine h_zeq (tg := 43) (pc' := 23) rfl rfl rfl ci_1 (fun c11 => absurd c11 (by omega)) (fun c11 => ?_)
            refine h_aload_n (pc' := 24) rfl rfl rfl ?_
            refine h_iload_n (pc' := 25) rfl rfl rfl ?_
            refine h_aload_n (pc' := 26) rfl rfl rfl ?_
            refine h_getR (pc' := 29) rfl rfl rfl rfl rfl ?_
            refine h_iload_n (pc' := 30) rfl rfl rfl ?_
            refine h_iald (pc' := 31) (v := σ 25 b2) rfl rfl rfl hy2 (by omega) (by omega) (F0_ 25 _ rfl) (fun z12 hz12 => ?_)
            have tz12 := ty_25 hI b2
            refine h_aload_n (pc' := 32) rfl rfl rfl ?_
            refine h_getR (pc' := 35) rfl rfl rfl rfl rfl ?_
            refine h_iload_n (pc' := 36) rfl rfl rfl ?_
            refine h_iald (pc' := 37) (v := σ 24 b2) rfl rfl rfl hy2 (by omega) (by omega) (F0_ 24 _ rfl) (fun z13 hz13 => ?_)
            have tz13 := ty_24 hI b2
            refine h_calls (pc' := 40) (M := [(0, .int z13)]) rfl rfl rfl rfl rfl rfl ?_
            refine h_iload_n (pc' := 1) rfl rfl rfl ?_
            refine h_tsw (dt := 34) (ts := [28, 30, 32]) rfl rfl rfl rfl hz13 (fun c14 => ?_) ⟨fun c14 => ?_, fun c14 => ?_, fun c14 => ?_, trivial⟩
            · refine h_iconst (pc' := 35) (x := (Int32.ofInt 4)) rfl rfl rfl ?_
              refine h_iret rfl rfl (h_Kv ?_)
              refine h_call (sp := false) (pc' := 43) (M := [(0, .ref 79), (1, .int y2), (2, .int z12), (3, .int (Int32.ofInt 4))]) rfl rfl rfl rfl rfl rfl rfl rfl ?_
              refine n_join _ I0 y2 _ hy2 (by omega) z12 _ hz12 (by omega) (Int32.ofInt 4) _ ci_4 (by omega) (fun s16 Is16 Gs16 ps16_0 => h_Kn ?_)
              have Fs16 := (Gs16.mono (B := kf_n_linkAll_23) rfl).tr F0_
              have es16_0 : s16 98 13 = s0 98 13 := (Gs16 98 13 rfl).trans rfl
              refine h_iinc (pc' := 46) (M := fun z17 => [(2, .int z17), (0, .ref 79), (1, .ref 23)]) rfl rfl rfl rfl hy2 ci_1 rfl (by omega) (by omega) (fun _ => rfl) (fun z17 hz17 => ?_)
              refine h_goto (pc' := 2) rfl rfl ?_
              exact h_wk [(0, .ref 79), (1, .ref 23), (2, .int z17)] ⟨rfl, rfl, rfl, trivial⟩ (ih.1 _ Is16 Fs16 z17 _ hz17 (by omega) (g_n1_y ex0 (by omega) (by omega) (by omega) rfl (by omega) (by omega) (by first | exact g_tie_0 (Int.le_antisymm (by omega) (by omega)) rfl | exact g_tie_1 (Int.le_antisymm (by omega) (by omega)) rfl | exact g_tie_2 (Int.le_antisymm (by omega) (by omega)) rfl | exact g_tie_3 (Int.le_antisymm (by omega) (by omega)) rfl) ps16_0) ((funext (fun j => Gs16 81 j rfl)).trans ex1) (by omega))
            · refine h_iconst (pc' := 29) (x := (Int32.ofInt 1)) rfl rfl rfl ?_
              refine h_iret rfl rfl (h_Kv ?_)
              refine h_call (sp := false) (pc' := 43) (M := [(0, .ref 79), (1, .int y2), (2, .int z12), (3, .int (Int32.ofInt 1))]) rfl rfl rfl rfl rfl rfl rfl rfl ?_
              refine n_join _ I0 y2 _ hy2 (by omega) z12 _ hz12 (by omega) (Int32.ofInt 1) _ ci_1 (by omega) (fun s19 Is19 Gs19 ps19_0 => h_Kn ?_)
              have Fs19 := (Gs19.mono (B := kf_n_linkAll_23) rfl).tr F0_
              have es19_0 : s19 98 13 = s0 98 13 := (Gs19 98 13 rfl).trans rfl
              refine h_iinc (pc' := 46) (M := fun z20 => [(2, .int z20), (0, .ref 79), (1, .ref 23)]) rfl rfl rfl rfl hy2 ci_1 rfl (by omega) (by omega) (fun _ => rfl) (fun z20 hz20 => ?_)
              refine h_goto (pc' := 2) rfl rfl ?_
              exact h_wk [(0, .ref 79), (1, .ref 23), (2, .int z20)] ⟨rfl, rfl, rfl, trivial⟩ (ih.1 _ Is19 Fs19 z20 _ hz20 (by omega) (g_n1_y ex0 (by omega) (by omega) (by omega) rfl (by omega) (by omega) (by first | exact g_tie_0 (Int.le_antisymm (by omega) (by omega)) rfl | exact g_tie_1 (Int.le_antisymm (by omega) (by omega)) rfl | exact g_tie_2 (Int.le_antisymm (by omega) (by omega)) rfl | exact g_tie_3 (Int.le_antisymm (by omega) (by omega)) rfl) ps19_0) ((funext (fun j => Gs19 81 j rfl)).trans ex1) (by omega))
            · refine h_iconst (pc' := 31) (x := (Int32.ofInt 2)) rfl rfl rfl ?_
              refine h_iret rfl rfl (h_Kv ?_)
              refine h_call (sp := false) (pc' := 43) (M := [(0, .ref 79), (1, .int y2), (2, .int z12), (3, .int (Int32.ofInt 2))]) rfl rfl rfl rfl rfl rfl rfl rfl ?_
              refine n_join _ I0 y2 _ hy2 (by omega) z12 _ hz12 (by omega) (Int32.ofInt 2) _ ci_2 (by omega) (fun s22 Is22 Gs22 ps22_0 => h_Kn ?_)
              have Fs22 := (Gs22.mono (B := kf_n_linkAll_23) rfl).tr F0_
              have es22_0 : s22 98 13 = s0 98 13 := (Gs22 98 13 rfl).trans rfl
              refine h_iinc (pc' := 46) (M := fun z23 => [(2, .int z23), (0, .ref 79), (1, .ref 23)]) rfl rfl rfl rfl hy2 ci_1 rfl (by omega) (by omega) (fun _ => rfl) (fun z23 hz23 => ?_)
              refine h_goto (pc' := 2) rfl rfl ?_
              exact h_wk [(0, .ref 79), (1, .ref 23), (2, .int z23)] ⟨rfl, rfl, rfl, trivial⟩ (ih.1 _ Is22 Fs22 z23 _ hz23 (by omega) (g_n1_y ex0 (by omega) (by omega) (by omega) rfl (by omega) (by omega) (by first | exact g_tie_0 (Int.le_antisymm (by omega) (by omega)) rfl | exact g_tie_1 (Int.le_antisymm (by omega) (by omega)) rfl | exact g_tie_2 (Int.le_antisymm (by omega) (by omega)) rfl | exact g_tie_3 (Int.le_antisymm (by omega) (by omega)) rfl) ps22_0) ((funext (fun j => Gs22 81 j rfl)).trans ex1) (by omega))
            · refine h_iconst (pc' := 33) (x := (Int32.ofInt 0)) rfl rfl rfl ?_
              refine h_iret rfl rfl (h_Kv ?_)
              refine h_call (sp := false) (pc' := 43) (M := [(0, .ref 79), (1, .int y2), (2, .int z12), (3, .int (Int32.ofInt 0))]) rfl rfl rfl rfl rfl rfl rfl rfl ?_
              refine n_join _ I0 y2 _ hy2 (by omega) z12 _ hz12 (by omega) (Int32.ofInt 0) _ ci_0 (by omega) (fun s25 Is25 Gs25 ps25_0 => h_Kn ?_)
              have Fs25 := (Gs25.mono (B := kf_n_linkAll_23) rfl).tr F0_
              have es25_0 : s25 98 13 = s0 98 13 := (Gs25 98 13 rfl).trans rfl
              refine h_iinc (pc' := 46) (M := fun z26 => [(2, .int z26), (0, .ref 79), (1, .ref 23)]) rfl rfl rfl rfl hy2 ci_1 rfl (by omega) (by omega) (fun _ => rfl) (fun z26 hz26 => ?_)
              refine h_goto (pc' := 2) rfl rfl ?_
              exact h_wk [(0, .ref 79), (1, .ref 23), (2, .int z26)] ⟨rfl, rfl, rfl, trivial⟩ (ih.1 _ Is25 Fs25 z26 _ hz26 (by omega) (g_n1_y ex0 (by omega) (by omega) (by omega) rfl (by omega) (by omega) (by first | exact g_tie_0 (Int.le_antisymm (by omega) (by omega)) rfl | exact g_tie_1 (Int.le_antisymm (by omega) (by omega)) rfl | exact g_tie_2 (Int.le_antisymm (by omega) (by omega)) rfl | exact g_tie_3 (Int.le_antisymm (by omega) (by omega)) rfl) ps25_0) ((funext (fun j => Gs25 81 j rfl)).trans ex1) (by omega))
    · intro s0 I0 F0_ y2 b2 hy2 ry2 ex0 ex1 hm; have gh0 := F0_ 79 2 rfl; have gh1 := F0_ 23 8 rfl; have gh2 := F0_ 26 2 rfl; have gh3 := F0_ 29 2 rfl; have gh4 := tf_23_8 hI; have gh5 := tf_26_2 hI; have gh6 := tf_29_2 hI; have gh7 := pr0
      refine h_iload_n (pc' := 52) rfl rfl rfl ?_
      refine h_aload_n (pc' := 53) rfl rfl rfl ?_
      refine h_getR (pc' := 56) rfl rfl rfl rfl rfl ?_
      refine h_getI (pc' := 59) (v := σ 26 2) rfl rfl rfl rfl rfl (F0_ 26 2 rfl) (fun z1 hz1 => ?_)
      have tz1 := tf_26_2 hI
      refine h_cge (tg := 91) (pc' := 62) rfl rfl rfl hy2 hz1 (fun c2 => ?_) (fun c2 => ?_)
      · refine h_iconst (pc' := 92) (x := (Int32.ofInt 0)) rfl rfl rfl ?_
        refine h_istore_n (pc' := 93) (M := [(2, .int (Int32.ofInt 0)), (0, .ref 79), (1, .ref 23)]) rfl rfl rfl rfl ?_
        exact h_wk [(0, .ref 79), (1, .ref 23), (2, .int (Int32.ofInt 0))] ⟨rfl, rfl, rfl, trivial⟩ (ih.2.2 _ I0 F0_ (Int32.ofInt 0) _ ci_0 (by omega) (g_n2_o ex0 (by omega) rfl) (g_fk_0 ex1) (by omega) (by omega))
      · refine h_aload_n (pc' := 63) rfl rfl rfl ?_
        refine h_aload_n (pc' := 64) rfl rfl rfl ?_
        refine h_getR (pc' := 67) rfl rfl rfl rfl rfl ?_
        refine h_getR (pc' := 70) rfl rfl rfl rfl rfl ?_
        refine h_iload_n (pc' := 71) rfl rfl rfl ?_
        refine h_iald (pc' := 72) (v := σ 27 b2) rfl rfl rfl hy2 (by omega) (by omega) (F0_ 27 _ rfl) (fun z3 hz3 => ?_)
        have tz3 := ty_27 hI b2
        refine h_aload_n (pc' := 73) rfl rfl rfl ?_
        refine h_getR (pc' := 76) rfl rfl rfl rfl rfl ?_
        refine h_getR (pc' := 79) rfl rfl rfl rfl rfl ?_
        refine h_iload_n (pc' := 80) rfl rfl rfl ?_
        refine h_iald (pc' := 81) (v := σ 28 b2) rfl rfl rfl hy2 (by omega) (by omega) (F0_ 28 _ rfl) (fun z4 hz4 => ?_)
        have tz4 := ty_28 hI b2
        refine h_iconst (pc' := 82) (x := (Int32.ofInt 1)) rfl rfl rfl ?_
        refine h_call (sp := false) (pc' := 85) (M := [(0, .ref 79), (1, .int z3), (2, .int z4), (3, .int (Int32.ofInt 1))]) rfl rfl rfl rfl rfl rfl rfl rfl ?_
        refine n_join _ I0 z3 _ hz3 (by omega) z4 _ hz4 (by omega) (Int32.ofInt 1) _ ci_1 (by omega) (fun s6 Is6 Gs6 ps6_0 => h_Kn ?_)
        have Fs6 := (Gs6.mono (B := kf_n_linkAll_23) rfl).tr F0_
        have es6_0 : s6 98 13 = s0 98 13 := (Gs6 98 13 rfl).trans rfl
        refine h_iinc (pc' := 88) (M := fun z7 => [(2, .int z7), (0, .ref 79), (1, .ref 23)]) rfl rfl rfl rfl hy2 ci_1 rfl (by omega) (by omega) (fun _ => rfl) (fun z7 hz7 => ?_)
        refine h_goto (pc' := 51) rfl rfl ?_
        exact h_wk [(0, .ref 79), (1, .ref 23), (2, .int z7)] ⟨rfl, rfl, rfl, trivial⟩ (ih.2.1 _ Is6 Fs6 z7 _ hz7 (by omega) (g_n2_y ex0 (by omega) (by omega) (by omega) rfl rfl ps6_0) ((funext (fun j => Gs6 81 j rfl)).trans ex1) (by omega))
    · intro s0 I0 F0_ y2 b2 hy2 ry2 ex0 ex1 ex2 hm; have gh0 := F0_ 79 2 rfl; have gh1 := F0_ 23 8 rfl; have gh2 := F0_ 26 2 rfl; have gh3 := F0_ 29 2 rfl; have gh4 := tf_23_8 hI; have gh5 := tf_26_2 hI; have gh6 := tf_29_2 hI; have gh7 := pr0
      refine h_iload_n (pc' := 94) rfl rfl rfl ?_
      refine h_aload_n (pc' := 95) rfl rfl rfl ?_
      refine h_getR (pc' := 98) rfl rfl rfl rfl rfl ?_
      refine h_getI (pc' := 101) (v := σ 29 2) rfl rfl rfl rfl rfl (F0_ 29 2 rfl) (fun z1 hz1 => ?_)
      have tz1 := tf_29_2 hI
      refine h_cge (tg := 157) (pc' := 104) rfl rfl rfl hy2 hz1 (fun c2 => ?_) (fun c2 => ?_)
      · exact h_vret rfl rfl (kk _ I0 F0_ ex0 (g_fk_k ex1 (by omega) (by omega)))
      · refine h_aload_n (pc' := 105) rfl rfl rfl ?_
        refine h_getR (pc' := 108) rfl rfl rfl rfl rfl ?_
        refine h_getR (pc' := 111) rfl rfl rfl rfl rfl ?_
        refine h_iload_n (pc' := 112) rfl rfl rfl ?_
        refine h_iald (pc' := 113) (v := σ 30 b2) rfl rfl rfl hy2 (by omega) (by omega) (F0_ 30 _ rfl) (fun z3 hz3 => ?_)
        have tz3 := ty_30 hI b2
        refine h_istore_n (pc' := 114) (M := [(3, .int z3), (0, .ref 79), (1, .ref 23), (2, .int y2)]) rfl rfl rfl rfl ?_
        refine h_aload_n (pc' := 115) rfl rfl rfl ?_
        refine h_getR (pc' := 118) rfl rfl rfl rfl rfl ?_
        refine h_getR (pc' := 121) rfl rfl rfl rfl rfl ?_
        refine h_iload_n (pc' := 122) rfl rfl rfl ?_
        refine h_iald (pc' := 123) (v := σ 31 b2) rfl rfl rfl hy2 (by omega) (by omega) (F0_ 31 _ rfl) (fun z4 hz4 => ?_)
        have tz4 := ty_31 hI b2
        refine h_istore (pc' := 125) (M := [(4, .int z4), (3, .int z3), (0, .ref 79), (1, .ref 23), (2, .int y2)]) rfl rfl rfl rfl ?_
        refine h_aload_n (pc' := 126) rfl rfl rfl ?_
        refine h_getR (pc' := 129) rfl rfl rfl rfl rfl ?_
        refine h_iload_n (pc' := 130) rfl rfl rfl ?_
        refine h_dup2 (pc' := 131) rfl rfl rfl ?_
        refine h_iald (pc' := 132) (v := s0 81 (σ 30 b2)) rfl rfl rfl hz3 (by omega) (by omega) rfl (fun z5 hz5 => ?_)
        have tz5 := ty_81 I0 (σ 30 b2)
        refine h_iconst (pc' := 133) (x := (Int32.ofInt 1)) rfl rfl rfl ?_
        refine h_iload (pc' := 135) rfl rfl rfl ?_
        refine h_shl1 (pc' := 136) rfl rfl ci_1 hz4 (by omega) (by omega) (fun z6 hz6 vz6 => ?_)
        refine h_ior (pc' := 137) rfl rfl (fun z7 hz7 => ?_)
        refine h_iast (pc' := 138) rfl rfl rfl rfl hz3 (by omega) (by omega) rfl (h_fgt (E := fun s => s 98 13 = s0 98 13 ∧ s = h_up s0 81 (σ 30 b2) z7.toInt) _ (in_81 I0 (h_rgv rfl)) (F0_.up rfl) ⟨rfl, rfl⟩ (fun s8 Is8 Fs8 (es8 : s8 98 13 = s0 98 13 ∧ s8 = h_up s0 81 (σ 30 b2) z7.toInt) => ?_))
        have us8 := es8.2
        refine h_aload_n (pc' := 139) rfl rfl rfl ?_
        refine h_getR (pc' := 142) rfl rfl rfl rfl rfl ?_
        refine h_iload (pc' := 144) rfl rfl rfl ?_
        refine h_dup2 (pc' := 145) rfl rfl rfl ?_
        refine h_iald (pc' := 146) (v := s8 81 (σ 31 b2)) rfl rfl rfl hz4 (by omega) (by omega) rfl (fun z9 hz9 => ?_)
        have tz9 := ty_81 Is8 (σ 31 b2)
        refine h_iconst (pc' := 147) (x := (Int32.ofInt 1)) rfl rfl rfl ?_
        refine h_iload_n (pc' := 148) rfl rfl rfl ?_
        refine h_shl1 (pc' := 149) rfl rfl ci_1 hz3 (by omega) (by omega) (fun z10 hz10 vz10 => ?_)
        refine h_ior (pc' := 150) rfl rfl (fun z11 hz11 => ?_)
        refine h_iast (pc' := 151) rfl rfl rfl rfl hz4 (by omega) (by omega) rfl (h_fgt (E := fun s => s 98 13 = s0 98 13 ∧ s = h_up s8 81 (σ 31 b2) z11.toInt) _ (in_81 Is8 (h_rgv rfl)) (Fs8.up rfl) ⟨es8.1, rfl⟩ (fun s12 Is12 Fs12 (es12 : s12 98 13 = s0 98 13 ∧ s12 = h_up s8 81 (σ 31 b2) z11.toInt) => ?_))
        clear es8
        have us12 := es12.2
        refine h_iinc (pc' := 154) (M := fun z13 => [(2, .int z13), (4, .int z4), (3, .int z3), (0, .ref 79), (1, .ref 23)]) rfl rfl rfl rfl hy2 ci_1 rfl (by omega) (by omega) (fun _ => rfl) (fun z13 hz13 => ?_)
        refine h_goto (pc' := 93) rfl rfl ?_
        exact h_wk [(0, .ref 79), (1, .ref 23), (2, .int z13)] ⟨rfl, rfl, rfl, trivial⟩ (ih.2.2 _ Is12 Fs12 z13 _ hz13 (by omega) ((h_upg us12 rfl).trans ((h_upg us8 rfl).trans ex0)) (g_fk_s ex1 (by omega) rfl rfl (by omega) (by omega) (h_upf us8) rfl (fun i i0 i9 => g_bi_or hz7 hz6 hz4 hz5 (by omega) (by omega) i0 i9) (h_upf us12) rfl (fun i i0 i9 => g_bi_or hz11 hz10 hz3 hz9 (by omega) (by omega) i0 i9)) (by omega) (by omega))
set_option maxHeartbeats 100000000 in
set_option maxHeartbeats 100000000 in
theorem n_linkAll_23 {ns : Nat} (σ : h_S) (hI : h_I σ) (pr0 : σ 79 2 = σ 23 8) {Q : Option Value → h_S → Prop} (kk : ∀ (τ : h_S), h_I τ → h_F (k_in kf_n_linkAll_23) τ σ → (τ 80 = g_n1 (σ 23 8) (σ 25) (σ 24) (σ 26 2) (σ 27) (σ 28) 0 (σ 80)) → (g_fk (σ 30) (σ 31) (σ 29 2) (σ 81) (τ 81)) → Q none τ) : h_T g_P (g_Y ns) 24 0 [(0, .ref 79), (1, .ref 23)] [] σ Q := by
  have F00 : h_F (k_in kf_n_linkAll_23) σ σ := h_F.rf
  refine h_iconst (pc' := 1) (x := (Int32.ofInt 0)) rfl rfl rfl ?_
  refine h_istore_n (pc' := 2) (M := [(2, .int (Int32.ofInt 0)), (0, .ref 79), (1, .ref 23)]) rfl rfl rfl rfl ?_
  exact h_wk [(0, .ref 79), (1, .ref 23), (2, .int (Int32.ofInt 0))] ⟨rfl, rfl, rfl, trivial⟩ ((n_linkAll_23_l ns σ hI pr0 kk 1000000000000).1 _ hI F00 (Int32.ofInt 0) _ ci_0 (by omega) rfl rfl (by omega))
def kf_n_measure_23 : List Nat := [80898, 82943, 83967]
set_option maxHeartbeats 100000000 in
set_option maxHeartbeats 100000000 in
theorem n_measure_23_l (ns : Nat) (σ : h_S) (hI : h_I σ) {Q : Option Value → h_S → Prop} (kk : ∀ (τ : h_S), h_I τ → h_F (k_in kf_n_measure_23) τ σ → (g_DX (σ 23 8) (σ 25) (σ 24) (σ 26 2) (σ 27) (σ 28) (τ 80)) → (τ 79 2 = σ 23 8) → (g_FX (σ 23 8) (σ 30) (σ 31) (σ 29 2) (τ 81)) → Q none τ) : ∀ n : Nat, (∀ (s0 : h_S), h_I s0 → h_F (k_in kf_n_measure_23) s0 σ → ∀ (y2 : Int32) (b2 : Int), y2.toInt = b2 → (0 ≤ b2 ∧ b2 ≤ 6) → (s0 79 2 = σ 23 8) → (g_ix (σ 23 8) b2 0 (s0 80)) → (g_z0 b2 (s0 81)) → (6 + 1 - b2) * 1000000 + 1000000000 ≤ (n : Int) → h_T g_P (g_Y ns) 23 10 [(0, .ref 79), (1, .ref 23), (2, .int y2)] [] s0 Q) ∧ (∀ (s0 : h_S), h_I s0 → h_F (k_in kf_n_measure_23) s0 σ → ∀ (y2 : Int32) (b2 : Int), y2.toInt = b2 → (0 ≤ b2 ∧ b2 ≤ 5) → ∀ (y3 : Int32) (b3 : Int), y3.toInt = b3 → (0 ≤ b3 ∧ b3 ≤ 6) → (s0 79 2 = σ 23 8) → (b2 < σ 23 8) → (g_ix (σ 23 8) b2 b3 (s0 80)) → (g_z0 (b2 + 1) (s0 81)) → ((6 + 1 - b2) - 1) * 1000000 + 1000000000 + (6 + 1 - b3) * 1000 + 100000 ≤ (n : Int) → h_T g_P (g_Y ns) 23 27 [(0, .ref 79), (1, .ref 23), (2, .int y2), (3, .int y3)] [] s0 Q) := by
  intro n
  induction n with
  | zero => exact ⟨by intro s0 I0 F0_ y2 b2 hy2 ry2 ex0 ex1 ex2 hm; have gh0 := F0_ 23 8 rfl; have gh1 := tf_23_8 hI; exfalso; omega, by intro s0 I0 F0_ y2 b2 hy2 ry2 y3 b3 hy3 ry3 ex0 ex1 ex2 ex3 hm; have gh0 := F0_ 23 8 rfl; have gh1 := tf_23_8 hI; exfalso; omega⟩
  | succ n ih =>
    refine ⟨?_, ?_⟩
    · intro s0 I0 F0_ y2 b2 hy2 ry2 ex0 ex1 ex2 hm; have gh0 := F0_ 23 8 rfl; have gh1 := tf_23_8 hI
      refine h_iload_n (pc' := 11) rfl rfl rfl ?_
      refine h_aload_n (pc' := 12) rfl rfl rfl ?_
      refine h_getI (pc' := 15) (v := s0 79 2) rfl rfl rfl rfl rfl rfl (fun z1 hz1 => ?_)
      have tz1 := tf_79_2 I0
      refine h_cge (tg := 70) (pc' := 18) rfl rfl rfl hy2 hz1 (fun c2 => ?_) (fun c2 => ?_)
      · refine h_aload_n (pc' := 71) rfl rfl rfl ?_
        refine h_aload_n (pc' := 72) rfl rfl rfl ?_
        refine h_call (sp := false) (pc' := 75) (M := [(0, .ref 79), (1, .ref 23)]) rfl rfl rfl rfl rfl rfl rfl rfl ?_
        refine n_linkAll_23 _ I0  (by omega) (fun s4 Is4 Gs4 ps4_0 ps4_1 => h_Kn ?_)
        have Fs4 := (Gs4.mono (B := kf_n_measure_23) rfl).tr F0_
        have es4_0 : s4 79 2 = s0 79 2 := (Gs4 79 2 rfl).trans rfl
        refine h_aload_n (pc' := 76) rfl rfl rfl ?_
        refine h_call (sp := false) (pc' := 79) (M := [(0, .ref 79)]) rfl rfl rfl rfl rfl rfl rfl rfl ?_
        refine n_shorten _ Is4  (fun s6 Is6 Gs6 ps6_0 => h_Kn ?_)
        have Fs6 := (Gs6.mono (B := kf_n_measure_23) rfl).tr Fs4
        have es6_0 : s6 79 2 = s0 79 2 := (Gs6 79 2 rfl).trans es4_0
        exact h_vret rfl rfl (kk _ Is6 Fs6 (g_DX_mk (g_ix_x ex1 (by omega)) ps6_0 (by omega) ps4_0 (F0_ 23 8 rfl) (funext (fun j => F0_ 25 j rfl)) (funext (fun j => F0_ 24 j rfl)) (F0_ 26 2 rfl) (funext (fun j => F0_ 27 j rfl)) (funext (fun j => F0_ 28 j rfl))) (by omega) (g_FX_mk ps4_1 (funext (fun j => Gs6 81 j rfl)) ex2 (by omega) (funext (fun j => F0_ 30 j rfl)) (funext (fun j => F0_ 31 j rfl)) (F0_ 29 2 rfl)))
      · refine h_aload_n (pc' := 19) rfl rfl rfl ?_
        refine h_getR (pc' := 22) rfl rfl rfl rfl rfl ?_
        refine h_iload_n (pc' := 23) rfl rfl rfl ?_
        refine h_iconst (pc' := 24) (x := (Int32.ofInt 0)) rfl rfl rfl ?_
        refine h_iast (pc' := 25) rfl rfl rfl rfl hy2 (by omega) (by omega) ci_0 (h_fgt (E := fun s => s 79 2 = s0 79 2 ∧ s = h_up s0 81 b2 0) _ (in_81 I0 (h_rgv ci_0)) (F0_.up rfl) ⟨rfl, rfl⟩ (fun s7 Is7 Fs7 (es7 : s7 79 2 = s0 79 2 ∧ s7 = h_up s0 81 b2 0) => ?_))
        have us7 := es7.2
        refine h_iconst (pc' := 26) (x := (Int32.ofInt 0)) rfl rfl rfl ?_
        refine h_istore_n (pc' := 27) (M := [(3, .int (Int32.ofInt 0)), (0, .ref 79), (1, .ref 23), (2, .int y2)]) rfl rfl rfl rfl ?_
        exact h_wk [(0, .ref 79), (1, .ref 23), (2, .int y2), (3, .int (Int32.ofInt 0))] ⟨rfl, rfl, rfl, rfl, trivial⟩ (ih.2 _ Is7 Fs7 y2 _ hy2 (by omega) (Int32.ofInt 0) _ ci_0 (by omega) (by omega) (by omega) (g_ix_e ex1 (h_upg us7 rfl) rfl rfl) (g_z0_s ex2 rfl rfl (h_upf us7)) (by omega))
    · intro s0 I0 F0_ y2 b2 hy2 ry2 y3 b3 hy3 ry3 ex0 ex1 ex2 ex3 hm; have gh0 := F0_ 23 8 rfl; have gh1 := tf_23_8 hI
      refine h_iload_n (pc' := 28) rfl rfl rfl ?_
      refine h_aload_n (pc' := 29) rfl rfl rfl ?_
      refine h_getI (pc' := 32) (v := s0 79 2) rfl rfl rfl rfl rfl rfl (fun z1 hz1 => ?_)
      have tz1 := tf_79_2 I0
      refine h_cge (tg := 64) (pc' := 35) rfl rfl rfl hy3 hz1 (fun c2 => ?_) (fun c2 => ?_)
      · refine h_iinc (pc' := 67) (M := fun z3 => [(2, .int z3), (0, .ref 79), (1, .ref 23), (3, .int y3)]) rfl rfl rfl rfl hy2 ci_1 rfl (by omega) (by omega) (fun _ => rfl) (fun z3 hz3 => ?_)
        refine h_goto (pc' := 10) rfl rfl ?_
        exact h_wk [(0, .ref 79), (1, .ref 23), (2, .int z3)] ⟨rfl, rfl, rfl, trivial⟩ (ih.1 _ I0 F0_ z3 _ hz3 (by omega) (by omega) (g_ix_r ex2 (by omega) rfl) ex3 (by omega))
      · refine h_aload_n (pc' := 36) rfl rfl rfl ?_
        refine h_getR (pc' := 39) rfl rfl rfl rfl rfl ?_
        refine h_iload_n (pc' := 40) rfl rfl rfl ?_
        refine h_bipush (pc' := 42) (x := (Int32.ofInt 6)) rfl rfl cb_6 ?_
        refine h_imul (pc' := 43) rfl rfl hy2 ci_6 rfl (by omega) (by omega) (fun z4 hz4 => ?_)
        refine h_iload_n (pc' := 44) rfl rfl rfl ?_
        refine h_iadd (pc' := 45) rfl rfl hz4 hy3 rfl (by omega) (by omega) (fun z5 hz5 => ?_)
        refine h_iload_n (pc' := 46) rfl rfl rfl ?_
        refine h_iload_n (pc' := 47) rfl rfl rfl ?_
        refine h_cne (tg := 54) (pc' := 50) rfl rfl rfl hy2 hy3 (fun c6 => ?_) (fun c6 => ?_)
        · refine h_sipush (pc' := 57) (x := (Int32.ofInt 1000)) rfl rfl cs_1000 ?_
          refine h_iast (pc' := 58) rfl rfl rfl rfl hz5 (by omega) (by omega) ci_1000 (h_fgt (E := fun s => s 79 2 = s0 79 2 ∧ s = h_up s0 80 ((b2 * 6) + b3) 1000) _ (in_80 I0 (by omega)) (F0_.up rfl) ⟨rfl, rfl⟩ (fun s7 Is7 Fs7 (es7 : s7 79 2 = s0 79 2 ∧ s7 = h_up s0 80 ((b2 * 6) + b3) 1000) => ?_))
          have us7 := es7.2
          refine h_iinc (pc' := 61) (M := fun z8 => [(3, .int z8), (0, .ref 79), (1, .ref 23), (2, .int y2)]) rfl rfl rfl rfl hy3 ci_1 rfl (by omega) (by omega) (fun _ => rfl) (fun z8 hz8 => ?_)
          refine h_goto (pc' := 27) rfl rfl ?_
          exact h_wk [(0, .ref 79), (1, .ref 23), (2, .int y2), (3, .int z8)] ⟨rfl, rfl, rfl, rfl, trivial⟩ (ih.2 _ Is7 Fs7 y2 _ hy2 (by omega) z8 _ hz8 (by omega) (by omega) (by omega) (g_ix_s ex2 (by omega) (by omega) (by omega) (by omega) rfl (by omega) (h_upf us7)) (g_z0_e ex3 (h_upg us7 rfl)) (by omega))
        · refine h_iconst (pc' := 51) (x := (Int32.ofInt 0)) rfl rfl rfl ?_
          refine h_goto (pc' := 57) rfl rfl ?_
          refine h_iast (pc' := 58) rfl rfl rfl rfl hz5 (by omega) (by omega) ci_0 (h_fgt (E := fun s => s 79 2 = s0 79 2 ∧ s = h_up s0 80 ((b2 * 6) + b3) 0) _ (in_80 I0 (by omega)) (F0_.up rfl) ⟨rfl, rfl⟩ (fun s9 Is9 Fs9 (es9 : s9 79 2 = s0 79 2 ∧ s9 = h_up s0 80 ((b2 * 6) + b3) 0) => ?_))
          have us9 := es9.2
          refine h_iinc (pc' := 61) (M := fun z10 => [(3, .int z10), (0, .ref 79), (1, .ref 23), (2, .int y2)]) rfl rfl rfl rfl hy3 ci_1 rfl (by omega) (by omega) (fun _ => rfl) (fun z10 hz10 => ?_)
          refine h_goto (pc' := 27) rfl rfl ?_
          exact h_wk [(0, .ref 79), (1, .ref 23), (2, .int y2), (3, .int z10)] ⟨rfl, rfl, rfl, rfl, trivial⟩ (ih.2 _ Is9 Fs9 y2 _ hy2 (by omega) z10 _ hz10 (by omega) (by omega) (by omega) (g_ix_s ex2 (by omega) (by omega) (by omega) (by omega) rfl (by omega) (h_upf us9)) (g_z0_e ex3 (h_upg us9 rfl)) (by omega))
set_option maxHeartbeats 100000000 in
set_option maxHeartbeats 100000000 in
theorem n_measure_23 {ns : Nat} (σ : h_S) (hI : h_I σ) {Q : Option Value → h_S → Prop} (kk : ∀ (τ : h_S), h_I τ → h_F (k_in kf_n_measure_23) τ σ → (g_DX (σ 23 8) (σ 25) (σ 24) (σ 26 2) (σ 27) (σ 28) (τ 80)) → (τ 79 2 = σ 23 8) → (g_FX (σ 23 8) (σ 30) (σ 31) (σ 29 2) (τ 81)) → Q none τ) : h_T g_P (g_Y ns) 23 0 [(0, .ref 79), (1, .ref 23)] [] σ Q := by
  have F00 : h_F (k_in kf_n_measure_23) σ σ := h_F.rf
  have ge0 := tf_23_8 hI
  refine h_aload_n (pc' := 1) rfl rfl rfl ?_
  refine h_aload_n (pc' := 2) rfl rfl rfl ?_
  refine h_getI (pc' := 5) (v := σ 23 8) rfl rfl rfl rfl rfl rfl (fun z1 hz1 => ?_)
  have tz1 := tf_23_8 hI
  refine h_put (pc' := 8) rfl rfl rfl rfl rfl rfl hz1 rfl (h_fgt (E := fun s => s 79 2 = (σ 23 8) ∧ s = h_up σ 79 2 (σ 23 8)) _ (if_79_2 hI (by omega)) (F00.up rfl) ⟨rfl, rfl⟩ (fun s2 Is2 Fs2 (es2 : s2 79 2 = (σ 23 8) ∧ s2 = h_up σ 79 2 (σ 23 8)) => ?_))
  have us2 := es2.2
  refine h_iconst (pc' := 9) (x := (Int32.ofInt 0)) rfl rfl rfl ?_
  refine h_istore_n (pc' := 10) (M := [(2, .int (Int32.ofInt 0)), (0, .ref 79), (1, .ref 23)]) rfl rfl rfl rfl ?_
  exact h_wk [(0, .ref 79), (1, .ref 23), (2, .int (Int32.ofInt 0))] ⟨rfl, rfl, rfl, trivial⟩ ((n_measure_23_l ns σ hI  kk 1000000000000).1 _ Is2 Fs2 (Int32.ofInt 0) _ ci_0 (by omega) (by omega) g_ix_0 g_z0_0 (by omega))
def kf_n_chl_10 : List Nat := [80898, 82943, 83967, 87044, 89087, 90111, 91135]
set_option maxHeartbeats 100000000 in
set_option maxHeartbeats 100000000 in
theorem n_chl_10 {ns : Nat} (σ : h_S) (hI : h_I σ) (x1 : Int32) (a1 : Int) (hx1 : x1.toInt = a1) (ra1 : 0 ≤ a1 ∧ a1 ≤ 2) {Q : Option Value → h_S → Prop} (kk : ∀ (τ : h_S), h_I τ → h_F (k_in kf_n_chl_10) τ σ → (∃ D f, g_DX (σ 10 8) (σ 12) (σ 11) (σ 13 2) (σ 14) (σ 15) D ∧ g_FX (σ 10 8) (σ 17) (σ 18) (σ 16 2) f ∧ τ 87 ((g_2p (σ 10 8) - 1) * 7 + 6) = g_T (σ 10 8).toNat (fun l p => g_lq (σ 10 8) D f (if l = 6 then σ 20 a1 else l) (σ 19 a1) p) 6 (fun _ => true) 6) → (τ 85 4 = σ 10 8) → Q none τ) : h_T g_P (g_Y ns) 130 0 [(0, .ref 9), (1, .ref 10), (2, .int x1)] [] σ Q := by
  have F00 : h_F (k_in kf_n_chl_10) σ σ := h_F.rf
  have ge0 := tf_10_8 hI
  refine h_aload_n (pc' := 1) rfl rfl rfl ?_
  refine h_getR (pc' := 4) rfl rfl rfl rfl rfl ?_
  refine h_aload_n (pc' := 5) rfl rfl rfl ?_
  refine h_call (sp := false) (pc' := 8) (M := [(0, .ref 79), (1, .ref 10)]) rfl rfl rfl rfl rfl rfl rfl rfl ?_
  refine n_measure_10 _ hI  (fun s2 Is2 Gs2 ps2_0 ps2_1 ps2_2 => h_Kn ?_)
  have Fs2 := (Gs2.mono (B := kf_n_chl_10) rfl).tr F00
  have es2_0 : s2 98 13 = σ 98 13 := (Gs2 98 13 rfl).trans rfl
  refine h_aload_n (pc' := 9) rfl rfl rfl ?_
  refine h_getR (pc' := 12) rfl rfl rfl rfl rfl ?_
  refine h_aload_n (pc' := 13) rfl rfl rfl ?_
  refine h_aload_n (pc' := 14) rfl rfl rfl ?_
  refine h_getR (pc' := 17) rfl rfl rfl rfl rfl ?_
  refine h_iload_n (pc' := 18) rfl rfl rfl ?_
  refine h_call (sp := false) (pc' := 21) (M := [(0, .ref 85), (1, .ref 10), (2, .ref 79), (3, .int x1)]) rfl rfl rfl rfl rfl rfl rfl rfl ?_
  refine n_place_10 _ Is2 x1 _ hx1 (by omega) (fun s4 Is4 Gs4 ps4_0 ps4_1 ps4_2 => h_Kn ?_)
  have Fs4 := (Gs4.mono (B := kf_n_chl_10) rfl).tr Fs2
  have es4_0 : s4 98 13 = σ 98 13 := (Gs4 98 13 rfl).trans es2_0
  refine h_aload_n (pc' := 22) rfl rfl rfl ?_
  refine h_getR (pc' := 25) rfl rfl rfl rfl rfl ?_
  refine h_call (sp := false) (pc' := 28) (M := [(0, .ref 85)]) rfl rfl rfl rfl rfl rfl rfl rfl ?_
  refine n_chart _ Is4  (fun s6 Is6 Gs6 ps6_0 => h_Kn ?_)
  have Fs6 := (Gs6.mono (B := kf_n_chl_10) rfl).tr Fs4
  have es6_0 : s6 98 13 = σ 98 13 := (Gs6 98 13 rfl).trans es4_0
  exact h_vret rfl rfl (kk _ Is6 Fs6 ⟨s2 80, s2 81, ps2_0, ps2_2, by have qc := ps6_0; have q8 : s4 85 4 = σ 10 8 := ps4_0.trans (Gs2 10 8 rfl); rw [q8] at qc; have t8 := tf_10_8 hI; refine qc.trans (g_T_e (fun l q l0 l1 q0 q1 => ?_) 6 _ _ 6 6 (fun q q0 q1 => ⟨rfl, ?_⟩)); (show g_bi (s4 86 l) q = g_lq (σ 10 8) (s2 80) (s2 81) (if l = 6 then σ 20 a1 else l) (σ 19 a1) q; rw [if_neg (by omega), ps4_1 l l0 (by have e8 := (Gs2 10 8 rfl); omega), g_bi_bs (by have e8 := ps2_1; omega) q0 (by have e8 := ps2_1; omega), ps2_1, show s2 19 a1 = σ 19 a1 from (Gs2 19 a1 rfl)]); (show g_bi (s4 86 6) q = g_lq (σ 10 8) (s2 80) (s2 81) (if (6 : Int) = 6 then σ 20 a1 else 6) (σ 19 a1) q; rw [if_pos rfl, ps4_2, g_bi_bs (by have e8 := ps2_1; omega) q0 (by have e8 := ps2_1; omega), ps2_1, show s2 20 a1 = σ 20 a1 from (Gs2 20 a1 rfl), show s2 19 a1 = σ 19 a1 from (Gs2 19 a1 rfl)])⟩ ((Gs6 85 4 rfl).trans (ps4_0.trans (Gs2 10 8 rfl))))
def kf_n_chl_23 : List Nat := [80898, 82943, 83967, 87044, 89087, 90111, 91135]
set_option maxHeartbeats 100000000 in
set_option maxHeartbeats 100000000 in
theorem n_chl_23 {ns : Nat} (σ : h_S) (hI : h_I σ) (x1 : Int32) (a1 : Int) (hx1 : x1.toInt = a1) (ra1 : 0 ≤ a1 ∧ a1 ≤ 2) {Q : Option Value → h_S → Prop} (kk : ∀ (τ : h_S), h_I τ → h_F (k_in kf_n_chl_23) τ σ → (∃ D f, g_DX (σ 23 8) (σ 25) (σ 24) (σ 26 2) (σ 27) (σ 28) D ∧ g_FX (σ 23 8) (σ 30) (σ 31) (σ 29 2) f ∧ τ 87 ((g_2p (σ 23 8) - 1) * 7 + 6) = g_T (σ 23 8).toNat (fun l p => g_lq (σ 23 8) D f (if l = 6 then σ 33 a1 else l) (σ 32 a1) p) 6 (fun _ => true) 6) → (τ 85 4 = σ 23 8) → Q none τ) : h_T g_P (g_Y ns) 130 0 [(0, .ref 9), (1, .ref 23), (2, .int x1)] [] σ Q := by
  have F00 : h_F (k_in kf_n_chl_23) σ σ := h_F.rf
  have ge0 := tf_23_8 hI
  refine h_aload_n (pc' := 1) rfl rfl rfl ?_
  refine h_getR (pc' := 4) rfl rfl rfl rfl rfl ?_
  refine h_aload_n (pc' := 5) rfl rfl rfl ?_
  refine h_call (sp := false) (pc' := 8) (M := [(0, .ref 79), (1, .ref 23)]) rfl rfl rfl rfl rfl rfl rfl rfl ?_
  refine n_measure_23 _ hI  (fun s2 Is2 Gs2 ps2_0 ps2_1 ps2_2 => h_Kn ?_)
  have Fs2 := (Gs2.mono (B := kf_n_chl_23) rfl).tr F00
  have es2_0 : s2 98 13 = σ 98 13 := (Gs2 98 13 rfl).trans rfl
  refine h_aload_n (pc' := 9) rfl rfl rfl ?_
  refine h_getR (pc' := 12) rfl rfl rfl rfl rfl ?_
  refine h_aload_n (pc' := 13) rfl rfl rfl ?_
  refine h_aload_n (pc' := 14) rfl rfl rfl ?_
  refine h_getR (pc' := 17) rfl rfl rfl rfl rfl ?_
  refine h_iload_n (pc' := 18) rfl rfl rfl ?_
  refine h_call (sp := false) (pc' := 21) (M := [(0, .ref 85), (1, .ref 23), (2, .ref 79), (3, .int x1)]) rfl rfl rfl rfl rfl rfl rfl rfl ?_
  refine n_place_23 _ Is2 x1 _ hx1 (by omega) (fun s4 Is4 Gs4 ps4_0 ps4_1 ps4_2 => h_Kn ?_)
  have Fs4 := (Gs4.mono (B := kf_n_chl_23) rfl).tr Fs2
  have es4_0 : s4 98 13 = σ 98 13 := (Gs4 98 13 rfl).trans es2_0
  refine h_aload_n (pc' := 22) rfl rfl rfl ?_
  refine h_getR (pc' := 25) rfl rfl rfl rfl rfl ?_
  refine h_call (sp := false) (pc' := 28) (M := [(0, .ref 85)]) rfl rfl rfl rfl rfl rfl rfl rfl ?_
  refine n_chart _ Is4  (fun s6 Is6 Gs6 ps6_0 => h_Kn ?_)
  have Fs6 := (Gs6.mono (B := kf_n_chl_23) rfl).tr Fs4
  have es6_0 : s6 98 13 = σ 98 13 := (Gs6 98 13 rfl).trans es4_0
  exact h_vret rfl rfl (kk _ Is6 Fs6 ⟨s2 80, s2 81, ps2_0, ps2_2, by have qc := ps6_0; have q8 : s4 85 4 = σ 23 8 := ps4_0.trans (Gs2 23 8 rfl); rw [q8] at qc; have t8 := tf_23_8 hI; refine qc.trans (g_T_e (fun l q l0 l1 q0 q1 => ?_) 6 _ _ 6 6 (fun q q0 q1 => ⟨rfl, ?_⟩)); (show g_bi (s4 86 l) q = g_lq (σ 23 8) (s2 80) (s2 81) (if l = 6 then σ 33 a1 else l) (σ 32 a1) q; rw [if_neg (by omega), ps4_1 l l0 (by have e8 := (Gs2 23 8 rfl); omega), g_bi_bs (by have e8 := ps2_1; omega) q0 (by have e8 := ps2_1; omega), ps2_1, show s2 32 a1 = σ 32 a1 from (Gs2 32 a1 rfl)]); (show g_bi (s4 86 6) q = g_lq (σ 23 8) (s2 80) (s2 81) (if (6 : Int) = 6 then σ 33 a1 else 6) (σ 32 a1) q; rw [if_pos rfl, ps4_2, g_bi_bs (by have e8 := ps2_1; omega) q0 (by have e8 := ps2_1; omega), ps2_1, show s2 33 a1 = σ 33 a1 from (Gs2 33 a1 rfl), show s2 32 a1 = σ 32 a1 from (Gs2 32 a1 rfl)])⟩ ((Gs6 85 4 rfl).trans (ps4_0.trans (Gs2 23 8 rfl))))
/-! WHO WOULD BE MARRIED -/
def g_cmr (p q : Int) (o σ : h_S) : Prop := (o 23 8 = σ 10 8 ∧ o 23 9 = σ 10 9 ∧ o 26 2 = σ 13 2 + 1 ∧ o 29 2 = σ 16 2) ∧ (∀ j, 0 ≤ j → j < 6 → o 24 j = σ 11 j ∧ o 25 j = σ 12 j) ∧ (∀ j, 0 ≤ j → j < 3 → ¬ j = σ 13 2 → o 27 j = σ 14 j ∧ o 28 j = σ 15 j) ∧ (o 27 (σ 13 2) = p ∧ o 28 (σ 13 2) = q) ∧ (∀ j, 0 ≤ j → j < 3 → o 30 j = σ 17 j ∧ o 31 j = σ 18 j) ∧ (∀ j, 0 ≤ j → j < 3 → o 32 j = σ 19 j) ∧ (∀ j, 0 ≤ j → j < 3 → o 33 j = σ 20 j)
def g_nX (p q g : Int) (σ : h_S) (v : Int) : Prop := ∃ (o : h_S) (D f : Int → Int), g_cmr p q o σ ∧ g_DX (o 23 8) (o 25) (o 24) (o 26 2) (o 27) (o 28) D ∧ g_FX (o 23 8) (o 30) (o 31) (o 29 2) f ∧ v = g_T (o 23 8).toNat (fun l p => g_lq (o 23 8) D f (if l = 6 then o 33 g else l) (o 32 g) p) 6 (fun _ => true) 6
def g_nr0 (g : Int) (σ : h_S) (v : Int) : Prop := ∃ D f : Int → Int, g_DX (σ 10 8) (σ 12) (σ 11) (σ 13 2) (σ 14) (σ 15) D ∧ g_FX (σ 10 8) (σ 17) (σ 18) (σ 16 2) f ∧ v = g_T (σ 10 8).toNat (fun l p => g_lq (σ 10 8) D f (if l = 6 then σ 20 g else l) (σ 19 g) p) 6 (fun _ => true) 6
/-- the reference's page, as it is and with a marriage -/
def g_qb (o σ : h_S) : Prop := o 98 1 = σ 98 1 ∧ o 100 = σ 100 ∧ (∀ j, 0 ≤ j → j < 44 → o 99 j = σ 99 j)
def g_qc (p q : Int) (o σ : h_S) : Prop := o 98 1 = σ 98 1 ∧ o 100 = σ 100 ∧ o 99 18 = σ 99 18 + 1 ∧ o 99 (12 + 2 * σ 99 18) = p ∧ o 99 (12 + 2 * σ 99 18 + 1) = q ∧ (∀ j, 0 ≤ j → j < 44 → ¬ j = 18 → ¬ j = 12 + 2 * σ 99 18 → ¬ j = 12 + 2 * σ 99 18 + 1 → o 99 j = σ 99 j)
def g_tM (g : Int) (o : h_S) (v : Int) : Prop := ∃ G : Int → Int, g_DM (o 98 1) (o 99 18) (o 99) (o 100) G ∧ v = g_T (o 98 1).toNat (fun l p => g_yM G (fun i => o 99 (19 + 2 * i)) (fun i => o 99 (19 + 2 * i + 1)) (o 99 25) p l (o 99 (26 + g))) 7 (fun _ => true) (g_orn (o 99 (29 + g)))
theorem g_nX.r {p q g v : Int} {s s' : h_S} (h : g_nX p q g s v) (e8 : s 10 8 = s' 10 8) (e9 : s 10 9 = s' 10 9) (e11 : s 11 = s' 11) (e12 : s 12 = s' 12) (e13 : s 13 2 = s' 13 2) (e14 : s 14 = s' 14) (e15 : s 15 = s' 15) (e16 : s 16 2 = s' 16 2) (e17 : s 17 = s' 17) (e18 : s 18 = s' 18) (e19 : s 19 = s' 19) (e20 : s 20 = s' 20) : g_nX p q g s' v := by
  obtain ⟨o, D, f, hc, h'⟩ := h
  refine ⟨o, D, f, ?_, h'⟩
  unfold g_cmr at *
  rw [← e8, ← e9, ← e11, ← e12, ← e13, ← e14, ← e15, ← e16, ← e17, ← e18, ← e19, ← e20]
  exact hc
theorem g_nr0.r {g v : Int} {s s' : h_S} (h : g_nr0 g s v) (e8 : s 10 8 = s' 10 8) (e11 : s 11 = s' 11) (e12 : s 12 = s' 12) (e13 : s 13 2 = s' 13 2) (e14 : s 14 = s' 14) (e15 : s 15 = s' 15) (e16 : s 16 2 = s' 16 2) (e17 : s 17 = s' 17) (e18 : s 18 = s' 18) (e19 : s 19 = s' 19) (e20 : s 20 = s' 20) : g_nr0 g s' v := by
  unfold g_nr0 at *
  rw [← e8, ← e11, ← e12, ← e13, ← e14, ← e15, ← e16, ← e17, ← e18, ← e19, ← e20]
  exact h
def kf_n_mostX : List Nat := [23560, 23561, 23562, 25599, 26623, 26626, 28671, 29695, 29698, 31743, 32767, 33791, 34815, 35839, 36863, 80898, 82943, 83967, 87044, 89087, 90111, 91135]
set_option maxHeartbeats 100000000 in
set_option maxHeartbeats 100000000 in
theorem n_mostX {ns : Nat} (σ : h_S) (hI : h_I σ) (x0 : Int32) (a0 : Int) (hx0 : x0.toInt = a0) (ra0 : 0 ≤ a0 ∧ a0 ≤ 5) (x1 : Int32) (a1 : Int) (hx1 : x1.toInt = a1) (ra1 : 0 ≤ a1 ∧ a1 ≤ 5) (x2 : Int32) (a2 : Int) (hx2 : x2.toInt = a2) (ra2 : 0 ≤ a2 ∧ a2 ≤ 2) (pr0 : σ 13 2 ≤ 2) {Q : Option Value → h_S → Prop} (kk : ∀ (r : Int32) (b : Int) (hb : r.toInt = b) (τ : h_S), h_I τ → h_F (k_in kf_n_mostX) τ σ → (g_nX a0 a1 a2 σ b) → Q (some (.int r)) τ) : h_T g_P (g_Y ns) 131 0 [(0, .ref 9), (1, .int x0), (2, .int x1), (3, .int x2)] [] σ Q := by
  have F00 : h_F (k_in kf_n_mostX) σ σ := h_F.rf
  have ge0 := tf_13_2 hI
  refine h_aload_n (pc' := 1) rfl rfl rfl ?_
  refine h_getR (pc' := 4) rfl rfl rfl rfl rfl ?_
  refine h_aload_n (pc' := 5) rfl rfl rfl ?_
  refine h_getR (pc' := 8) rfl rfl rfl rfl rfl ?_
  refine h_call (sp := false) (pc' := 11) (M := [(0, .ref 23), (1, .ref 10)]) rfl rfl rfl rfl rfl rfl rfl rfl ?_
  refine n_copy_23_10 _ hI  (fun s2 Is2 Gs2 ps2_0 => h_Kn ?_)
  have Fs2 := (Gs2.mono (B := kf_n_mostX) rfl).tr F00
  have es2_0 : s2 98 13 = σ 98 13 := (Gs2 98 13 rfl).trans rfl
  have k4 : s2 26 2 = σ 13 2 := ps2_0.1.2.2.2.1
  refine h_aload_n (pc' := 12) rfl rfl rfl ?_
  refine h_getR (pc' := 15) rfl rfl rfl rfl rfl ?_
  refine h_getR (pc' := 18) rfl rfl rfl rfl rfl ?_
  refine h_iload_n (pc' := 19) rfl rfl rfl ?_
  refine h_iload_n (pc' := 20) rfl rfl rfl ?_
  refine h_call (sp := false) (pc' := 23) (M := [(0, .ref 26), (1, .int x0), (2, .int x1)]) rfl rfl rfl rfl rfl rfl rfl rfl ?_
  refine h_aload_n (pc' := 1) rfl rfl rfl ?_
  refine h_call (sp := false) (pc' := 4) (M := [(0, .ref 26)]) rfl rfl rfl rfl rfl rfl rfl rfl ?_
  refine h_aload_n (pc' := 1) rfl rfl rfl ?_
  refine h_getI (pc' := 4) (v := s2 26 2) rfl rfl rfl rfl rfl rfl (fun z3 hz3 => ?_)
  have tz3 := tf_26_2 Is2
  refine h_iconst (pc' := 5) (x := (Int32.ofInt 3)) rfl rfl rfl ?_
  refine h_clt (tg := 12) (pc' := 8) rfl rfl rfl hz3 ci_3 (fun c4 => ?_) (fun c4 => ?_)
  · refine h_iconst (pc' := 13) (x := (Int32.ofInt 0)) rfl rfl rfl ?_
    refine h_zret rfl rfl ci_0 (by omega) (h_Kv ?_)
    refine h_zeq (tg := 9) (pc' := 7) rfl rfl rfl ci_0 (fun c5 => ?_) (fun c5 => absurd c5 (by omega))
    refine h_aload_n (pc' := 10) rfl rfl rfl ?_
    refine h_getR (pc' := 13) rfl rfl rfl rfl rfl ?_
    refine h_aload_n (pc' := 14) rfl rfl rfl ?_
    refine h_getI (pc' := 17) (v := s2 26 2) rfl rfl rfl rfl rfl rfl (fun z6 hz6 => ?_)
    have tz6 := tf_26_2 Is2
    refine h_iload_n (pc' := 18) rfl rfl rfl ?_
    refine h_iast (pc' := 19) rfl rfl rfl rfl hz6 (by omega) (by omega) hx0 (h_fgt (E := fun s => s 98 13 = σ 98 13 ∧ s 26 2 = s2 26 2 ∧ s = h_up s2 27 (s2 26 2) a0) _ (in_27 Is2 (by omega)) (Fs2.up rfl) ⟨es2_0, rfl, rfl⟩ (fun s7 Is7 Fs7 (es7 : s7 98 13 = σ 98 13 ∧ s7 26 2 = s2 26 2 ∧ s7 = h_up s2 27 (s2 26 2) a0) => ?_))
    have us7 := es7.2.2
    refine h_aload_n (pc' := 20) rfl rfl rfl ?_
    refine h_getR (pc' := 23) rfl rfl rfl rfl rfl ?_
    refine h_aload_n (pc' := 24) rfl rfl rfl ?_
    refine h_getI (pc' := 27) (v := s2 26 2) rfl rfl rfl rfl rfl es7.2.1 (fun z8 hz8 => ?_)
    have tz8 := tf_26_2 Is2
    refine h_iload_n (pc' := 28) rfl rfl rfl ?_
    refine h_iast (pc' := 29) rfl rfl rfl rfl hz8 (by omega) (by omega) hx1 (h_fgt (E := fun s => s 98 13 = σ 98 13 ∧ s 26 2 = s2 26 2 ∧ s = h_up s7 28 (s2 26 2) a1) _ (in_28 Is7 (by omega)) (Fs7.up rfl) ⟨es7.1, es7.2.1, rfl⟩ (fun s9 Is9 Fs9 (es9 : s9 98 13 = σ 98 13 ∧ s9 26 2 = s2 26 2 ∧ s9 = h_up s7 28 (s2 26 2) a1) => ?_))
    clear es7
    have us9 := es9.2.2
    refine h_aload_n (pc' := 30) rfl rfl rfl ?_
    refine h_dup (pc' := 31) rfl rfl rfl ?_
    refine h_getI (pc' := 34) (v := s2 26 2) rfl rfl rfl rfl rfl es9.2.1 (fun z10 hz10 => ?_)
    have tz10 := tf_26_2 Is2
    refine h_iconst (pc' := 35) (x := (Int32.ofInt 1)) rfl rfl rfl ?_
    refine h_iadd (pc' := 36) rfl rfl hz10 ci_1 rfl (by omega) (by omega) (fun z11 hz11 => ?_)
    refine h_put (pc' := 39) rfl rfl rfl rfl rfl rfl hz11 rfl (h_fgt (E := fun s => s 98 13 = σ 98 13 ∧ s 26 2 = ((s2 26 2) + 1) ∧ s = h_up s9 26 2 ((s2 26 2) + 1)) _ (if_26_2 Is9 (by omega)) (Fs9.up rfl) ⟨es9.1, rfl, rfl⟩ (fun s12 Is12 Fs12 (es12 : s12 98 13 = σ 98 13 ∧ s12 26 2 = ((s2 26 2) + 1) ∧ s12 = h_up s9 26 2 ((s2 26 2) + 1)) => ?_))
    clear es9
    have us12 := es12.2.2
    refine h_iconst (pc' := 40) (x := (Int32.ofInt 1)) rfl rfl rfl ?_
    refine h_zret rfl rfl ci_1 (by omega) (h_Kv ?_)
    refine h_pop (pc' := 24) rfl rfl rfl ?_
    refine h_aload_n (pc' := 25) rfl rfl rfl ?_
    refine h_aload_n (pc' := 26) rfl rfl rfl ?_
    refine h_getR (pc' := 29) rfl rfl rfl rfl rfl ?_
    refine h_iload_n (pc' := 30) rfl rfl rfl ?_
    refine h_call (sp := false) (pc' := 33) (M := [(0, .ref 9), (1, .ref 23), (2, .int x2)]) rfl rfl rfl rfl rfl rfl rfl rfl ?_
    refine n_chl_23 _ Is12 x2 _ hx2 (by omega) (fun s14 Is14 Gs14 ps14_0 ps14_1 => h_Kn ?_)
    have Fs14 := (Gs14.mono (B := kf_n_mostX) rfl).tr Fs12
    have es14_0 : s14 98 13 = σ 98 13 := (Gs14 98 13 rfl).trans es12.1
    have es14_1 : s14 26 2 = ((s2 26 2) + 1) := (Gs14 26 2 rfl).trans es12.2.1
    refine h_aload_n (pc' := 34) rfl rfl rfl ?_
    refine h_getR (pc' := 37) rfl rfl rfl rfl rfl ?_
    refine h_call (sp := false) (pc' := 40) (M := [(0, .ref 85)]) rfl rfl rfl rfl rfl rfl rfl rfl ?_
    refine h_aload_n (pc' := 1) rfl rfl rfl ?_
    refine h_getR (pc' := 4) rfl rfl rfl rfl rfl ?_
    refine h_aload_n (pc' := 5) rfl rfl rfl ?_
    refine h_call (sp := false) (pc' := 8) (M := [(0, .ref 85)]) rfl rfl rfl rfl rfl rfl rfl rfl ?_
    refine h_iconst (pc' := 1) (x := (Int32.ofInt 1)) rfl rfl rfl ?_
    refine h_aload_n (pc' := 2) rfl rfl rfl ?_
    refine h_getI (pc' := 5) (v := s14 85 4) rfl rfl rfl rfl rfl rfl (fun z15 hz15 => ?_)
    have tz15 := tf_85_4 Is14
    refine h_shl1 (pc' := 6) rfl rfl ci_1 hz15 (by omega) (by omega) (fun z16 hz16 vz16 => ?_)
    refine h_iconst (pc' := 7) (x := (Int32.ofInt 1)) rfl rfl rfl ?_
    refine h_isub (pc' := 8) rfl rfl rfl ci_1 rfl (by omega) (by omega) (fun z17 hz17 => ?_)
    refine h_iret rfl rfl (h_Kv ?_)
    refine h_bipush (pc' := 10) (x := (Int32.ofInt 7)) rfl rfl cb_7 ?_
    refine h_imul (pc' := 11) rfl rfl hz17 ci_7 rfl (by omega) (by omega) (fun z18 hz18 => ?_)
    refine h_bipush (pc' := 13) (x := (Int32.ofInt 6)) rfl rfl cb_6 ?_
    refine h_iadd (pc' := 14) rfl rfl hz18 ci_6 rfl (by omega) (by omega) (fun z19 hz19 => ?_)
    refine h_iald (pc' := 15) (v := s14 87 (((z16.toInt - 1) * 7) + 6)) rfl rfl rfl hz19 (by omega) (by omega) rfl (fun z20 hz20 => ?_)
    have tz20 := ty_87 Is14 (((z16.toInt - 1) * 7) + 6)
    refine h_iret rfl rfl (h_Kv ?_)
    exact h_iret rfl rfl (kk _ _ hz20 _ Is14 Fs14 (by have k4 : s2 26 2 = σ 13 2 := ps2_0.1.2.2.2.1; obtain ⟨⟨k1, k2, k3, k4_, k5⟩, m1, m2, m3, m4, m5, m6, m7, m8, m9⟩ := ps2_0; have kv1 : s7 26 2 = s2 26 2 := (h_upo us7 rfl 2); have kv2 : s9 26 2 = s2 26 2 := ((h_upo us9 rfl 2).trans (h_upo us7 rfl 2)); have gs := g_2p_of hz16 hz15; obtain ⟨D, f, d1, d2, d3⟩ := ps14_0; have q8 := ps14_1; refine ⟨s12, D, f, ⟨⟨((h_upo us12 rfl 8).trans ((h_upo us9 rfl 8).trans (h_upo us7 rfl 8))).trans k1, ((h_upo us12 rfl 9).trans ((h_upo us9 rfl 9).trans (h_upo us7 rfl 9))).trans k2, by have z := ((h_upv us12)); omega, ((h_upo us12 rfl 2).trans ((h_upo us9 rfl 2).trans (h_upo us7 rfl 2))).trans k5⟩, fun j x y => ⟨((h_upo us12 rfl j).trans ((h_upo us9 rfl j).trans (h_upo us7 rfl j))).trans (m1 j x y), ((h_upo us12 rfl j).trans ((h_upo us9 rfl j).trans (h_upo us7 rfl j))).trans (m2 j x y)⟩, fun j x y z => ⟨(((h_upo us12 rfl j).trans (h_upo us9 rfl j)).trans (h_upd us7 (by omega))).trans (m3 j x y), (((h_upo us12 rfl j).trans (h_upd us9 (by omega))).trans (h_upo us7 rfl j)).trans (m4 j x y)⟩, ⟨by have z := ((congrArg (s12 27) (show σ 13 2 = (s2 26 2) by omega)).trans (((h_upo us12 rfl ((s2 26 2))).trans (h_upo us9 rfl ((s2 26 2)))).trans (h_upv us7))); omega, by have z := ((congrArg (s12 28) (show σ 13 2 = (s2 26 2) by omega)).trans ((h_upo us12 rfl ((s2 26 2))).trans (h_upv us9))); omega⟩, fun j x y => ⟨((h_upo us12 rfl j).trans ((h_upo us9 rfl j).trans (h_upo us7 rfl j))).trans (m5 j x y), ((h_upo us12 rfl j).trans ((h_upo us9 rfl j).trans (h_upo us7 rfl j))).trans (m6 j x y)⟩, fun j x y => ((h_upo us12 rfl j).trans ((h_upo us9 rfl j).trans (h_upo us7 rfl j))).trans (m7 j x y), fun j x y => ((h_upo us12 rfl j).trans ((h_upo us9 rfl j).trans (h_upo us7 rfl j))).trans ((m9 rfl).1 j x y)⟩, d1, d2, ?_⟩; refine Eq.trans (congrArg (s14 87) ?_) d3; rw [← q8]; omega))
  · refine h_iconst (pc' := 9) (x := (Int32.ofInt 1)) rfl rfl rfl ?_
    refine h_goto (pc' := 13) rfl rfl ?_
    refine h_zret rfl rfl ci_1 (by omega) (h_Kv ?_)
    refine h_zeq (tg := 9) (pc' := 7) rfl rfl rfl ci_1 (fun c21 => absurd c21 (by omega)) (fun c21 => ?_)
    refine h_iconst (pc' := 8) (x := (Int32.ofInt 0)) rfl rfl rfl ?_
    refine h_zret rfl rfl ci_0 (by omega) (h_Kv ?_)
    refine h_pop (pc' := 24) rfl rfl rfl ?_
    refine h_aload_n (pc' := 25) rfl rfl rfl ?_
    refine h_aload_n (pc' := 26) rfl rfl rfl ?_
    refine h_getR (pc' := 29) rfl rfl rfl rfl rfl ?_
    refine h_iload_n (pc' := 30) rfl rfl rfl ?_
    refine h_call (sp := false) (pc' := 33) (M := [(0, .ref 9), (1, .ref 23), (2, .int x2)]) rfl rfl rfl rfl rfl rfl rfl rfl ?_
    refine n_chl_23 _ Is2 x2 _ hx2 (by omega) (fun s23 Is23 Gs23 ps23_0 ps23_1 => h_Kn ?_)
    have Fs23 := (Gs23.mono (B := kf_n_mostX) rfl).tr Fs2
    have es23_0 : s23 98 13 = σ 98 13 := (Gs23 98 13 rfl).trans es2_0
    have es23_1 : s23 26 2 = s2 26 2 := (Gs23 26 2 rfl).trans rfl
    refine h_aload_n (pc' := 34) rfl rfl rfl ?_
    refine h_getR (pc' := 37) rfl rfl rfl rfl rfl ?_
    refine h_call (sp := false) (pc' := 40) (M := [(0, .ref 85)]) rfl rfl rfl rfl rfl rfl rfl rfl ?_
    refine h_aload_n (pc' := 1) rfl rfl rfl ?_
    refine h_getR (pc' := 4) rfl rfl rfl rfl rfl ?_
    refine h_aload_n (pc' := 5) rfl rfl rfl ?_
    refine h_call (sp := false) (pc' := 8) (M := [(0, .ref 85)]) rfl rfl rfl rfl rfl rfl rfl rfl ?_
    refine h_iconst (pc' := 1) (x := (Int32.ofInt 1)) rfl rfl rfl ?_
    refine h_aload_n (pc' := 2) rfl rfl rfl ?_
    refine h_getI (pc' := 5) (v := s23 85 4) rfl rfl rfl rfl rfl rfl (fun z24 hz24 => ?_)
    have tz24 := tf_85_4 Is23
    refine h_shl1 (pc' := 6) rfl rfl ci_1 hz24 (by omega) (by omega) (fun z25 hz25 vz25 => ?_)
    refine h_iconst (pc' := 7) (x := (Int32.ofInt 1)) rfl rfl rfl ?_
    refine h_isub (pc' := 8) rfl rfl rfl ci_1 rfl (by omega) (by omega) (fun z26 hz26 => ?_)
    refine h_iret rfl rfl (h_Kv ?_)
    refine h_bipush (pc' := 10) (x := (Int32.ofInt 7)) rfl rfl cb_7 ?_
    refine h_imul (pc' := 11) rfl rfl hz26 ci_7 rfl (by omega) (by omega) (fun z27 hz27 => ?_)
    refine h_bipush (pc' := 13) (x := (Int32.ofInt 6)) rfl rfl cb_6 ?_
    refine h_iadd (pc' := 14) rfl rfl hz27 ci_6 rfl (by omega) (by omega) (fun z28 hz28 => ?_)
    refine h_iald (pc' := 15) (v := s23 87 (((z25.toInt - 1) * 7) + 6)) rfl rfl rfl hz28 (by omega) (by omega) rfl (fun z29 hz29 => ?_)
    have tz29 := ty_87 Is23 (((z25.toInt - 1) * 7) + 6)
    refine h_iret rfl rfl (h_Kv ?_)
    exact h_iret rfl rfl (kk _ _ hz29 _ Is23 Fs23 (by exfalso; have k4 : s2 26 2 = σ 13 2 := ps2_0.1.2.2.2.1; omega))
def kf_n_matX : List Nat := [23560, 23561, 23562, 25599, 26623, 26626, 28671, 29695, 29698, 31743, 32767, 33791, 34815, 35839, 36863, 80898, 82943, 83967, 87044, 89087, 90111, 91135]
set_option maxHeartbeats 100000000 in
set_option maxHeartbeats 100000000 in
theorem n_matX_l (ns : Nat) (σ : h_S) (hI : h_I σ) (x0 : Int32) (a0 : Int) (hx0 : x0.toInt = a0) (x1 : Int32) (a1 : Int) (hx1 : x1.toInt = a1) {Q : Option Value → h_S → Prop} (kk : ∀ (r : Int32) (b : Int) (hb : r.toInt = b) (τ : h_S), h_I τ → h_F (k_in kf_n_matX) τ σ → ((¬ (0 ≤ a0 ∧ a0 < σ 10 9 ∧ (a1 = 0 ∨ a1 = 1)) ∧ b = -1) ∨ ((0 ≤ a0 ∧ a0 < σ 10 9 ∧ (a1 = 0 ∨ a1 = 1)) ∧ 3 ≤ σ 13 2 ∧ b = -3) ∨ ((0 ≤ a0 ∧ a0 < σ 10 9 ∧ (a1 = 0 ∨ a1 = 1)) ∧ σ 13 2 ≤ 2 ∧ ∃ x y : Int, g_mi (fun j v => g_nX (j / 6) (j % 6) a0 σ v) (g_nr0 a0 σ) (σ 10 8) (6 * σ 10 8) x y ∧ b = g_mo a1 x y)) → Q (some (.int r)) τ) : ∀ n : Nat, (∀ (s0 : h_S), h_I s0 → h_F (k_in kf_n_matX) s0 σ → ∀ (y3 : Int32) (b3 : Int), y3.toInt = b3 → ∀ (y4 : Int32) (b4 : Int), y4.toInt = b4 → ((-4) ≤ b4 ∧ b4 ≤ 63) → ∀ (y5 : Int32) (b5 : Int), y5.toInt = b5 → (0 ≤ b5 ∧ b5 ≤ 6) → (0 ≤ a0 ∧ a0 < σ 10 9 ∧ (a1 = 0 ∨ a1 = 1)) → (σ 13 2 ≤ 2) → (g_mi (fun j v => g_nX (j / 6) (j % 6) a0 σ v) (g_nr0 a0 σ) (σ 10 8) (6 * b5) b3 b4) → (b5 ≤ σ 10 8) → (6 + 1 - b5) * 1000000 + 1000000000 ≤ (n : Int) → h_T g_P (g_Y ns) 105 60 [(0, .ref 9), (1, .int x0), (2, .int x1), (3, .int y3), (4, .int y4), (5, .int y5)] [] s0 Q) ∧ (∀ (s0 : h_S), h_I s0 → h_F (k_in kf_n_matX) s0 σ → ∀ (y3 : Int32) (b3 : Int), y3.toInt = b3 → ∀ (y4 : Int32) (b4 : Int), y4.toInt = b4 → ((-4) ≤ b4 ∧ b4 ≤ 63) → ∀ (y5 : Int32) (b5 : Int), y5.toInt = b5 → (0 ≤ b5 ∧ b5 ≤ 5) → ∀ (y6 : Int32) (b6 : Int), y6.toInt = b6 → (1 ≤ b6 ∧ b6 ≤ 6) → (0 ≤ a0 ∧ a0 < σ 10 9 ∧ (a1 = 0 ∨ a1 = 1)) → (σ 13 2 ≤ 2) → (g_mi (fun j v => g_nX (j / 6) (j % 6) a0 σ v) (g_nr0 a0 σ) (σ 10 8) (6 * b5 + b6) b3 b4) → (b5 < σ 10 8 ∧ b5 < b6 ∧ b6 ≤ σ 10 8) → ((6 + 1 - b5) - 1) * 1000000 + 1000000000 + (6 + 1 - b6) * 1000 + 100000 ≤ (n : Int) → h_T g_P (g_Y ns) 105 78 [(0, .ref 9), (1, .int x0), (2, .int x1), (3, .int y3), (4, .int y4), (5, .int y5), (6, .int y6)] [] s0 Q) := by
  intro n
  induction n with
  | zero => exact ⟨by intro s0 I0 F0_ y3 b3 hy3 y4 b4 hy4 ry4 y5 b5 hy5 ry5 ex0 ex1 ex2 ex3 hm; have gh0 := F0_ 10 8 rfl; have gh1 := tf_10_8 hI; have gh2 := tf_10_9 hI; exfalso; omega, by intro s0 I0 F0_ y3 b3 hy3 y4 b4 hy4 ry4 y5 b5 hy5 ry5 y6 b6 hy6 ry6 ex0 ex1 ex2 ex3 hm; have gh0 := F0_ 10 8 rfl; have gh1 := tf_10_8 hI; have gh2 := tf_10_9 hI; exfalso; omega⟩
  | succ n ih =>
    refine ⟨?_, ?_⟩
    · intro s0 I0 F0_ y3 b3 hy3 y4 b4 hy4 ry4 y5 b5 hy5 ry5 ex0 ex1 ex2 ex3 hm; have gh0 := F0_ 10 8 rfl; have gh1 := tf_10_8 hI; have gh2 := tf_10_9 hI
      refine h_iload (pc' := 62) rfl rfl rfl ?_
      refine h_aload_n (pc' := 63) rfl rfl rfl ?_
      refine h_getR (pc' := 66) rfl rfl rfl rfl rfl ?_
      refine h_getI (pc' := 69) (v := σ 10 8) rfl rfl rfl rfl rfl (F0_ 10 8 rfl) (fun z1 hz1 => ?_)
      have tz1 := tf_10_8 hI
      refine h_cge (tg := 132) (pc' := 72) rfl rfl rfl hy5 hz1 (fun c2 => ?_) (fun c2 => ?_)
      · refine h_iload_n (pc' := 133) rfl rfl rfl ?_
        refine h_zeq (tg := 143) (pc' := 136) rfl rfl rfl hx1 (fun c3 => ?_) (fun c3 => ?_)
        · refine h_iload (pc' := 145) rfl rfl rfl ?_
          refine h_goto (pc' := 149) rfl rfl ?_
          exact h_iret rfl rfl (kk _ _ hy4 _ I0 F0_ (Or.inr (Or.inr ⟨by omega, by omega, b3, b4, by rw [show σ 10 8 = b5 by omega] at ex2 ⊢; exact ex2, g_mo_of (by omega)⟩)))
        · refine h_iload (pc' := 138) rfl rfl rfl ?_
          refine h_bipush (pc' := 140) (x := (Int32.ofInt (-4))) rfl rfl cb_m4 ?_
          refine h_cne (tg := 148) (pc' := 143) rfl rfl rfl hy4 ci_m4 (fun c4 => ?_) (fun c4 => ?_)
          · refine h_iload_n (pc' := 149) rfl rfl rfl ?_
            exact h_iret rfl rfl (kk _ _ hy3 _ I0 F0_ (Or.inr (Or.inr ⟨by omega, by omega, b3, b4, by rw [show σ 10 8 = b5 by omega] at ex2 ⊢; exact ex2, g_mo_of (by omega)⟩)))
          · refine h_iload (pc' := 145) rfl rfl rfl ?_
            refine h_goto (pc' := 149) rfl rfl ?_
            exact h_iret rfl rfl (kk _ _ hy4 _ I0 F0_ (Or.inr (Or.inr ⟨by omega, by omega, b3, b4, by rw [show σ 10 8 = b5 by omega] at ex2 ⊢; exact ex2, g_mo_of (by omega)⟩)))
      · refine h_iload (pc' := 74) rfl rfl rfl ?_
        refine h_iconst (pc' := 75) (x := (Int32.ofInt 1)) rfl rfl rfl ?_
        refine h_iadd (pc' := 76) rfl rfl hy5 ci_1 rfl (by omega) (by omega) (fun z5 hz5 => ?_)
        refine h_istore (pc' := 78) (M := [(6, .int z5), (0, .ref 9), (1, .int x0), (2, .int x1), (3, .int y3), (4, .int y4), (5, .int y5)]) rfl rfl rfl rfl ?_
        exact h_wk [(0, .ref 9), (1, .int x0), (2, .int x1), (3, .int y3), (4, .int y4), (5, .int y5), (6, .int z5)] ⟨rfl, rfl, rfl, rfl, rfl, rfl, rfl, trivial⟩ (ih.2 _ I0 F0_ y3 _ hy3 y4 _ hy4 (by omega) y5 _ hy5 (by omega) z5 _ hz5 (by omega) (by omega) (by omega) (g_mi_k ex2 (by omega) (by omega) (fun j x y => by omega)) (by omega) (by omega))
    · intro s0 I0 F0_ y3 b3 hy3 y4 b4 hy4 ry4 y5 b5 hy5 ry5 y6 b6 hy6 ry6 ex0 ex1 ex2 ex3 hm; have gh0 := F0_ 10 8 rfl; have gh1 := tf_10_8 hI; have gh2 := tf_10_9 hI
      refine h_iload (pc' := 80) rfl rfl rfl ?_
      refine h_aload_n (pc' := 81) rfl rfl rfl ?_
      refine h_getR (pc' := 84) rfl rfl rfl rfl rfl ?_
      refine h_getI (pc' := 87) (v := σ 10 8) rfl rfl rfl rfl rfl (F0_ 10 8 rfl) (fun z1 hz1 => ?_)
      have tz1 := tf_10_8 hI
      refine h_cge (tg := 126) (pc' := 90) rfl rfl rfl hy6 hz1 (fun c2 => ?_) (fun c2 => ?_)
      · refine h_iinc (pc' := 129) (M := fun z3 => [(5, .int z3), (0, .ref 9), (1, .int x0), (2, .int x1), (3, .int y3), (4, .int y4), (6, .int y6)]) rfl rfl rfl rfl hy5 ci_1 rfl (by omega) (by omega) (fun _ => rfl) (fun z3 hz3 => ?_)
        refine h_goto (pc' := 60) rfl rfl ?_
        exact h_wk [(0, .ref 9), (1, .int x0), (2, .int x1), (3, .int y3), (4, .int y4), (5, .int z3)] ⟨rfl, rfl, rfl, rfl, rfl, rfl, trivial⟩ (ih.1 _ I0 F0_ y3 _ hy3 y4 _ hy4 (by omega) z3 _ hz3 (by omega) (by omega) (by omega) (g_mi_k ex2 (by omega) (by omega) (fun j x y => by omega)) (by omega) (by omega))
      · refine h_aload_n (pc' := 91) rfl rfl rfl ?_
        refine h_iload (pc' := 93) rfl rfl rfl ?_
        refine h_iload (pc' := 95) rfl rfl rfl ?_
        refine h_iload_n (pc' := 96) rfl rfl rfl ?_
        refine h_call (sp := false) (pc' := 99) (M := [(0, .ref 9), (1, .int y5), (2, .int y6), (3, .int x0)]) rfl rfl rfl rfl rfl rfl rfl rfl ?_
        refine n_mostX _ I0 y5 _ hy5 (by omega) y6 _ hy6 (by omega) x0 _ hx0 (by omega) (by have z : s0 13 2 = σ 13 2 := F0_ 13 2 rfl; omega) (fun r4 br4 hr4 s5 Is5 Gs5 ps5_0 => h_Kv ?_)
        have Fs5 := (Gs5.mono (B := kf_n_matX) rfl).tr F0_
        have es5_0 : s5 98 13 = s0 98 13 := (Gs5 98 13 rfl).trans rfl
        refine h_istore (pc' := 101) (M := [(7, .int r4), (0, .ref 9), (1, .int x0), (2, .int x1), (3, .int y3), (4, .int y4), (5, .int y5), (6, .int y6)]) rfl rfl rfl rfl ?_
        refine h_iload (pc' := 103) rfl rfl rfl ?_
        refine h_iload_n (pc' := 104) rfl rfl rfl ?_
        refine h_cle (tg := 120) (pc' := 107) rfl rfl rfl hr4 hy3 (fun c6 => ?_) (fun c6 => ?_)
        · refine h_iinc (pc' := 123) (M := fun z7 => [(6, .int z7), (7, .int r4), (0, .ref 9), (1, .int x0), (2, .int x1), (3, .int y3), (4, .int y4), (5, .int y5)]) rfl rfl rfl rfl hy6 ci_1 rfl (by omega) (by omega) (fun _ => rfl) (fun z7 hz7 => ?_)
          refine h_goto (pc' := 78) rfl rfl ?_
          exact h_wk [(0, .ref 9), (1, .int x0), (2, .int x1), (3, .int y3), (4, .int y4), (5, .int y5), (6, .int z7)] ⟨rfl, rfl, rfl, rfl, rfl, rfl, rfl, trivial⟩ (ih.2 _ Is5 Fs5 y3 _ hy3 y4 _ hy4 (by omega) y5 _ hy5 (by omega) z7 _ hz7 (by omega) (by omega) (by omega) (g_mi_y ex2 (by omega) (by omega) (show g_nX ((6 * b5 + b6) / 6) ((6 * b5 + b6) % 6) a0 σ _ from (by have z := ps5_0; rw [show (6 * b5 + b6) / 6 = b5 by omega, show (6 * b5 + b6) % 6 = b6 by omega]; exact z.r (F0_ 10 8 rfl) (F0_ 10 9 rfl) (funext (fun j => F0_ 11 j rfl)) (funext (fun j => F0_ 12 j rfl)) (F0_ 13 2 rfl) (funext (fun j => F0_ 14 j rfl)) (funext (fun j => F0_ 15 j rfl)) (F0_ 16 2 rfl) (funext (fun j => F0_ 17 j rfl)) (funext (fun j => F0_ 18 j rfl)) (funext (fun j => F0_ 19 j rfl)) (funext (fun j => F0_ 20 j rfl)))) (decide_eq_true (by omega)) (by omega)) (by omega) (by omega))
        · refine h_iload (pc' := 109) rfl rfl rfl ?_
          refine h_istore_n (pc' := 110) (M := [(3, .int r4), (7, .int r4), (0, .ref 9), (1, .int x0), (2, .int x1), (4, .int y4), (5, .int y5), (6, .int y6)]) rfl rfl rfl rfl ?_
          refine h_bipush (pc' := 112) (x := (Int32.ofInt 10)) rfl rfl cb_10 ?_
          refine h_iload (pc' := 114) rfl rfl rfl ?_
          refine h_imul (pc' := 115) rfl rfl ci_10 hy5 rfl (by omega) (by omega) (fun z8 hz8 => ?_)
          refine h_iload (pc' := 117) rfl rfl rfl ?_
          refine h_iadd (pc' := 118) rfl rfl hz8 hy6 rfl (by omega) (by omega) (fun z9 hz9 => ?_)
          refine h_istore (pc' := 120) (M := [(4, .int z9), (3, .int r4), (7, .int r4), (0, .ref 9), (1, .int x0), (2, .int x1), (5, .int y5), (6, .int y6)]) rfl rfl rfl rfl ?_
          refine h_iinc (pc' := 123) (M := fun z10 => [(6, .int z10), (4, .int z9), (3, .int r4), (7, .int r4), (0, .ref 9), (1, .int x0), (2, .int x1), (5, .int y5)]) rfl rfl rfl rfl hy6 ci_1 rfl (by omega) (by omega) (fun _ => rfl) (fun z10 hz10 => ?_)
          refine h_goto (pc' := 78) rfl rfl ?_
          exact h_wk [(0, .ref 9), (1, .int x0), (2, .int x1), (3, .int r4), (4, .int z9), (5, .int y5), (6, .int z10)] ⟨rfl, rfl, rfl, rfl, rfl, rfl, rfl, trivial⟩ (ih.2 _ Is5 Fs5 r4 _ hr4 z9 _ hz9 (by omega) y5 _ hy5 (by omega) z10 _ hz10 (by omega) (by omega) (by omega) (g_mi_y ex2 (by omega) (by omega) (show g_nX ((6 * b5 + b6) / 6) ((6 * b5 + b6) % 6) a0 σ _ from (by have z := ps5_0; rw [show (6 * b5 + b6) / 6 = b5 by omega, show (6 * b5 + b6) % 6 = b6 by omega]; exact z.r (F0_ 10 8 rfl) (F0_ 10 9 rfl) (funext (fun j => F0_ 11 j rfl)) (funext (fun j => F0_ 12 j rfl)) (F0_ 13 2 rfl) (funext (fun j => F0_ 14 j rfl)) (funext (fun j => F0_ 15 j rfl)) (F0_ 16 2 rfl) (funext (fun j => F0_ 17 j rfl)) (funext (fun j => F0_ 18 j rfl)) (funext (fun j => F0_ 19 j rfl)) (funext (fun j => F0_ 20 j rfl)))) (decide_eq_true (by omega)) (by omega)) (by omega) (by omega))
set_option maxHeartbeats 100000000 in
set_option maxHeartbeats 100000000 in
theorem n_matX {ns : Nat} (σ : h_S) (hI : h_I σ) (x0 : Int32) (a0 : Int) (hx0 : x0.toInt = a0) (x1 : Int32) (a1 : Int) (hx1 : x1.toInt = a1) {Q : Option Value → h_S → Prop} (kk : ∀ (r : Int32) (b : Int) (hb : r.toInt = b) (τ : h_S), h_I τ → h_F (k_in kf_n_matX) τ σ → ((¬ (0 ≤ a0 ∧ a0 < σ 10 9 ∧ (a1 = 0 ∨ a1 = 1)) ∧ b = -1) ∨ ((0 ≤ a0 ∧ a0 < σ 10 9 ∧ (a1 = 0 ∨ a1 = 1)) ∧ 3 ≤ σ 13 2 ∧ b = -3) ∨ ((0 ≤ a0 ∧ a0 < σ 10 9 ∧ (a1 = 0 ∨ a1 = 1)) ∧ σ 13 2 ≤ 2 ∧ ∃ x y : Int, g_mi (fun j v => g_nX (j / 6) (j % 6) a0 σ v) (g_nr0 a0 σ) (σ 10 8) (6 * σ 10 8) x y ∧ b = g_mo a1 x y)) → Q (some (.int r)) τ) : h_T g_P (g_Y ns) 105 0 [(0, .ref 9), (1, .int x0), (2, .int x1)] [] σ Q := by
  have F00 : h_F (k_in kf_n_matX) σ σ := h_F.rf
  have ge0 := tf_10_8 hI
  have ge1 := tf_10_9 hI
  have ge2 := tf_13_2 hI
  refine h_aload_n (pc' := 1) rfl rfl rfl ?_
  refine h_getR (pc' := 4) rfl rfl rfl rfl rfl ?_
  refine h_iload_n (pc' := 5) rfl rfl rfl ?_
  refine h_call (sp := false) (pc' := 8) (M := [(0, .ref 10), (1, .int x0)]) rfl rfl rfl rfl rfl rfl rfl rfl ?_
  refine h_iload_n (pc' := 1) rfl rfl rfl ?_
  refine h_zlt (tg := 16) (pc' := 4) rfl rfl rfl hx0 (fun c1 => ?_) (fun c1 => ?_)
  · refine h_iconst (pc' := 17) (x := (Int32.ofInt 0)) rfl rfl rfl ?_
    refine h_zret rfl rfl ci_0 (by omega) (h_Kv ?_)
    refine h_zeq (tg := 18) (pc' := 11) rfl rfl rfl ci_0 (fun c2 => ?_) (fun c2 => absurd c2 (by omega))
    refine h_iconst (pc' := 19) (x := (Int32.ofInt (-1))) rfl rfl rfl ?_
    exact h_iret rfl rfl (kk _ _ ci_m1 _ hI F00 (by first | exact Or.inl ⟨by omega, rfl⟩ | exact Or.inr (Or.inl ⟨by omega, by omega, rfl⟩)))
  · refine h_iload_n (pc' := 5) rfl rfl rfl ?_
    refine h_aload_n (pc' := 6) rfl rfl rfl ?_
    refine h_getI (pc' := 9) (v := σ 10 9) rfl rfl rfl rfl rfl rfl (fun z3 hz3 => ?_)
    have tz3 := tf_10_9 hI
    refine h_cge (tg := 16) (pc' := 12) rfl rfl rfl hx0 hz3 (fun c4 => ?_) (fun c4 => ?_)
    · refine h_iconst (pc' := 17) (x := (Int32.ofInt 0)) rfl rfl rfl ?_
      refine h_zret rfl rfl ci_0 (by omega) (h_Kv ?_)
      refine h_zeq (tg := 18) (pc' := 11) rfl rfl rfl ci_0 (fun c5 => ?_) (fun c5 => absurd c5 (by omega))
      refine h_iconst (pc' := 19) (x := (Int32.ofInt (-1))) rfl rfl rfl ?_
      exact h_iret rfl rfl (kk _ _ ci_m1 _ hI F00 (by first | exact Or.inl ⟨by omega, rfl⟩ | exact Or.inr (Or.inl ⟨by omega, by omega, rfl⟩)))
    · refine h_iconst (pc' := 13) (x := (Int32.ofInt 1)) rfl rfl rfl ?_
      refine h_goto (pc' := 17) rfl rfl ?_
      refine h_zret rfl rfl ci_1 (by omega) (h_Kv ?_)
      refine h_zeq (tg := 18) (pc' := 11) rfl rfl rfl ci_1 (fun c6 => absurd c6 (by omega)) (fun c6 => ?_)
      refine h_iload_n (pc' := 12) rfl rfl rfl ?_
      refine h_calls (pc' := 15) (M := [(0, .int x1)]) rfl rfl rfl rfl rfl rfl ?_
      refine h_iload_n (pc' := 1) rfl rfl rfl ?_
      refine h_zeq (tg := 9) (pc' := 4) rfl rfl rfl hx1 (fun c7 => ?_) (fun c7 => ?_)
      · refine h_iconst (pc' := 10) (x := (Int32.ofInt 1)) rfl rfl rfl ?_
        refine h_goto (pc' := 14) rfl rfl ?_
        refine h_zret rfl rfl ci_1 (by omega) (h_Kv ?_)
        refine h_zne (tg := 20) (pc' := 18) rfl rfl rfl ci_1 (fun c8 => ?_) (fun c8 => absurd c8 (by omega))
        refine h_aload_n (pc' := 21) rfl rfl rfl ?_
        refine h_getR (pc' := 24) rfl rfl rfl rfl rfl ?_
        refine h_getR (pc' := 27) rfl rfl rfl rfl rfl ?_
        refine h_call (sp := false) (pc' := 30) (M := [(0, .ref 13)]) rfl rfl rfl rfl rfl rfl rfl rfl ?_
        refine h_aload_n (pc' := 1) rfl rfl rfl ?_
        refine h_getI (pc' := 4) (v := σ 13 2) rfl rfl rfl rfl rfl rfl (fun z9 hz9 => ?_)
        have tz9 := tf_13_2 hI
        refine h_iconst (pc' := 5) (x := (Int32.ofInt 3)) rfl rfl rfl ?_
        refine h_clt (tg := 12) (pc' := 8) rfl rfl rfl hz9 ci_3 (fun c10 => ?_) (fun c10 => ?_)
        · refine h_iconst (pc' := 13) (x := (Int32.ofInt 0)) rfl rfl rfl ?_
          refine h_zret rfl rfl ci_0 (by omega) (h_Kv ?_)
          refine h_zeq (tg := 36) (pc' := 33) rfl rfl rfl ci_0 (fun c11 => ?_) (fun c11 => absurd c11 (by omega))
          refine h_aload_n (pc' := 37) rfl rfl rfl ?_
          refine h_aload_n (pc' := 38) rfl rfl rfl ?_
          refine h_getR (pc' := 41) rfl rfl rfl rfl rfl ?_
          refine h_iload_n (pc' := 42) rfl rfl rfl ?_
          refine h_call (sp := false) (pc' := 45) (M := [(0, .ref 9), (1, .ref 10), (2, .int x0)]) rfl rfl rfl rfl rfl rfl rfl rfl ?_
          refine n_chl_10 _ hI x0 _ hx0 (by omega) (fun s13 Is13 Gs13 ps13_0 ps13_1 => h_Kn ?_)
          have Fs13 := (Gs13.mono (B := kf_n_matX) rfl).tr F00
          have es13_0 : s13 98 13 = σ 98 13 := (Gs13 98 13 rfl).trans rfl
          refine h_aload_n (pc' := 46) rfl rfl rfl ?_
          refine h_getR (pc' := 49) rfl rfl rfl rfl rfl ?_
          refine h_call (sp := false) (pc' := 52) (M := [(0, .ref 85)]) rfl rfl rfl rfl rfl rfl rfl rfl ?_
          refine h_aload_n (pc' := 1) rfl rfl rfl ?_
          refine h_getR (pc' := 4) rfl rfl rfl rfl rfl ?_
          refine h_aload_n (pc' := 5) rfl rfl rfl ?_
          refine h_call (sp := false) (pc' := 8) (M := [(0, .ref 85)]) rfl rfl rfl rfl rfl rfl rfl rfl ?_
          refine h_iconst (pc' := 1) (x := (Int32.ofInt 1)) rfl rfl rfl ?_
          refine h_aload_n (pc' := 2) rfl rfl rfl ?_
          refine h_getI (pc' := 5) (v := s13 85 4) rfl rfl rfl rfl rfl rfl (fun z14 hz14 => ?_)
          have tz14 := tf_85_4 Is13
          refine h_shl1 (pc' := 6) rfl rfl ci_1 hz14 (by omega) (by omega) (fun z15 hz15 vz15 => ?_)
          refine h_iconst (pc' := 7) (x := (Int32.ofInt 1)) rfl rfl rfl ?_
          refine h_isub (pc' := 8) rfl rfl rfl ci_1 rfl (by omega) (by omega) (fun z16 hz16 => ?_)
          refine h_iret rfl rfl (h_Kv ?_)
          refine h_bipush (pc' := 10) (x := (Int32.ofInt 7)) rfl rfl cb_7 ?_
          refine h_imul (pc' := 11) rfl rfl hz16 ci_7 rfl (by omega) (by omega) (fun z17 hz17 => ?_)
          refine h_bipush (pc' := 13) (x := (Int32.ofInt 6)) rfl rfl cb_6 ?_
          refine h_iadd (pc' := 14) rfl rfl hz17 ci_6 rfl (by omega) (by omega) (fun z18 hz18 => ?_)
          refine h_iald (pc' := 15) (v := s13 87 (((z15.toInt - 1) * 7) + 6)) rfl rfl rfl hz18 (by omega) (by omega) rfl (fun z19 hz19 => ?_)
          have tz19 := ty_87 Is13 (((z15.toInt - 1) * 7) + 6)
          refine h_iret rfl rfl (h_Kv ?_)
          refine h_istore_n (pc' := 53) (M := [(3, .int z19), (0, .ref 9), (1, .int x0), (2, .int x1)]) rfl rfl rfl rfl ?_
          refine h_bipush (pc' := 55) (x := (Int32.ofInt (-4))) rfl rfl cb_m4 ?_
          refine h_istore (pc' := 57) (M := [(4, .int (Int32.ofInt (-4))), (3, .int z19), (0, .ref 9), (1, .int x0), (2, .int x1)]) rfl rfl rfl rfl ?_
          refine h_iconst (pc' := 58) (x := (Int32.ofInt 0)) rfl rfl rfl ?_
          refine h_istore (pc' := 60) (M := [(5, .int (Int32.ofInt 0)), (4, .int (Int32.ofInt (-4))), (3, .int z19), (0, .ref 9), (1, .int x0), (2, .int x1)]) rfl rfl rfl rfl ?_
          exact h_wk [(0, .ref 9), (1, .int x0), (2, .int x1), (3, .int z19), (4, .int (Int32.ofInt (-4))), (5, .int (Int32.ofInt 0))] ⟨rfl, rfl, rfl, rfl, rfl, rfl, trivial⟩ ((n_matX_l ns σ hI x0 a0 hx0 x1 a1 hx1 kk 1000000000000).1 _ Is13 Fs13 z19 _ hz19 (Int32.ofInt (-4)) _ ci_m4 (by omega) (Int32.ofInt 0) _ ci_0 (by omega) (by omega) (by omega) (g_mi_0 (by have gs := g_2p_of hz15 hz14; obtain ⟨D, f, d1, d2, d3⟩ := ps13_0; have q8 := ps13_1; refine ⟨D, f, d1, d2, ?_⟩; refine Eq.trans (congrArg (s13 87) ?_) d3; rw [← q8]; omega) rfl rfl) (by omega) (by omega))
        · refine h_iconst (pc' := 9) (x := (Int32.ofInt 1)) rfl rfl rfl ?_
          refine h_goto (pc' := 13) rfl rfl ?_
          refine h_zret rfl rfl ci_1 (by omega) (h_Kv ?_)
          refine h_zeq (tg := 36) (pc' := 33) rfl rfl rfl ci_1 (fun c20 => absurd c20 (by omega)) (fun c20 => ?_)
          refine h_bipush (pc' := 35) (x := (Int32.ofInt (-3))) rfl rfl cb_m3 ?_
          exact h_iret rfl rfl (kk _ _ ci_m3 _ hI F00 (by first | exact Or.inl ⟨by omega, rfl⟩ | exact Or.inr (Or.inl ⟨by omega, by omega, rfl⟩)))
      · refine h_iload_n (pc' := 5) rfl rfl rfl ?_
        refine h_iconst (pc' := 6) (x := (Int32.ofInt 1)) rfl rfl rfl ?_
        refine h_cne (tg := 13) (pc' := 9) rfl rfl rfl hx1 ci_1 (fun c21 => ?_) (fun c21 => ?_)
        · refine h_iconst (pc' := 14) (x := (Int32.ofInt 0)) rfl rfl rfl ?_
          refine h_zret rfl rfl ci_0 (by omega) (h_Kv ?_)
          refine h_zne (tg := 20) (pc' := 18) rfl rfl rfl ci_0 (fun c22 => absurd c22 (by omega)) (fun c22 => ?_)
          refine h_iconst (pc' := 19) (x := (Int32.ofInt (-1))) rfl rfl rfl ?_
          exact h_iret rfl rfl (kk _ _ ci_m1 _ hI F00 (by first | exact Or.inl ⟨by omega, rfl⟩ | exact Or.inr (Or.inl ⟨by omega, by omega, rfl⟩)))
        · refine h_iconst (pc' := 10) (x := (Int32.ofInt 1)) rfl rfl rfl ?_
          refine h_goto (pc' := 14) rfl rfl ?_
          refine h_zret rfl rfl ci_1 (by omega) (h_Kv ?_)
          refine h_zne (tg := 20) (pc' := 18) rfl rfl rfl ci_1 (fun c23 => ?_) (fun c23 => absurd c23 (by omega))
          refine h_aload_n (pc' := 21) rfl rfl rfl ?_
          refine h_getR (pc' := 24) rfl rfl rfl rfl rfl ?_
          refine h_getR (pc' := 27) rfl rfl rfl rfl rfl ?_
          refine h_call (sp := false) (pc' := 30) (M := [(0, .ref 13)]) rfl rfl rfl rfl rfl rfl rfl rfl ?_
          refine h_aload_n (pc' := 1) rfl rfl rfl ?_
          refine h_getI (pc' := 4) (v := σ 13 2) rfl rfl rfl rfl rfl rfl (fun z24 hz24 => ?_)
          have tz24 := tf_13_2 hI
          refine h_iconst (pc' := 5) (x := (Int32.ofInt 3)) rfl rfl rfl ?_
          refine h_clt (tg := 12) (pc' := 8) rfl rfl rfl hz24 ci_3 (fun c25 => ?_) (fun c25 => ?_)
          · refine h_iconst (pc' := 13) (x := (Int32.ofInt 0)) rfl rfl rfl ?_
            refine h_zret rfl rfl ci_0 (by omega) (h_Kv ?_)
            refine h_zeq (tg := 36) (pc' := 33) rfl rfl rfl ci_0 (fun c26 => ?_) (fun c26 => absurd c26 (by omega))
            refine h_aload_n (pc' := 37) rfl rfl rfl ?_
            refine h_aload_n (pc' := 38) rfl rfl rfl ?_
            refine h_getR (pc' := 41) rfl rfl rfl rfl rfl ?_
            refine h_iload_n (pc' := 42) rfl rfl rfl ?_
            refine h_call (sp := false) (pc' := 45) (M := [(0, .ref 9), (1, .ref 10), (2, .int x0)]) rfl rfl rfl rfl rfl rfl rfl rfl ?_
            refine n_chl_10 _ hI x0 _ hx0 (by omega) (fun s28 Is28 Gs28 ps28_0 ps28_1 => h_Kn ?_)
            have Fs28 := (Gs28.mono (B := kf_n_matX) rfl).tr F00
            have es28_0 : s28 98 13 = σ 98 13 := (Gs28 98 13 rfl).trans rfl
            refine h_aload_n (pc' := 46) rfl rfl rfl ?_
            refine h_getR (pc' := 49) rfl rfl rfl rfl rfl ?_
            refine h_call (sp := false) (pc' := 52) (M := [(0, .ref 85)]) rfl rfl rfl rfl rfl rfl rfl rfl ?_
            refine h_aload_n (pc' := 1) rfl rfl rfl ?_
            refine h_getR (pc' := 4) rfl rfl rfl rfl rfl ?_
            refine h_aload_n (pc' := 5) rfl rfl rfl ?_
            refine h_call (sp := false) (pc' := 8) (M := [(0, .ref 85)]) rfl rfl rfl rfl rfl rfl rfl rfl ?_
            refine h_iconst (pc' := 1) (x := (Int32.ofInt 1)) rfl rfl rfl ?_
            refine h_aload_n (pc' := 2) rfl rfl rfl ?_
            refine h_getI (pc' := 5) (v := s28 85 4) rfl rfl rfl rfl rfl rfl (fun z29 hz29 => ?_)
            have tz29 := tf_85_4 Is28
            refine h_shl1 (pc' := 6) rfl rfl ci_1 hz29 (by omega) (by omega) (fun z30 hz30 vz30 => ?_)
            refine h_iconst (pc' := 7) (x := (Int32.ofInt 1)) rfl rfl rfl ?_
            refine h_isub (pc' := 8) rfl rfl rfl ci_1 rfl (by omega) (by omega) (fun z31 hz31 => ?_)
            refine h_iret rfl rfl (h_Kv ?_)
            refine h_bipush (pc' := 10) (x := (Int32.ofInt 7)) rfl rfl cb_7 ?_
            refine h_imul (pc' := 11) rfl rfl hz31 ci_7 rfl (by omega) (by omega) (fun z32 hz32 => ?_)
            refine h_bipush (pc' := 13) (x := (Int32.ofInt 6)) rfl rfl cb_6 ?_
            refine h_iadd (pc' := 14) rfl rfl hz32 ci_6 rfl (by omega) (by omega) (fun z33 hz33 => ?_)
            refine h_iald (pc' := 15) (v := s28 87 (((z30.toInt - 1) * 7) + 6)) rfl rfl rfl hz33 (by omega) (by omega) rfl (fun z34 hz34 => ?_)
            have tz34 := ty_87 Is28 (((z30.toInt - 1) * 7) + 6)
            refine h_iret rfl rfl (h_Kv ?_)
            refine h_istore_n (pc' := 53) (M := [(3, .int z34), (0, .ref 9), (1, .int x0), (2, .int x1)]) rfl rfl rfl rfl ?_
            refine h_bipush (pc' := 55) (x := (Int32.ofInt (-4))) rfl rfl cb_m4 ?_
            refine h_istore (pc' := 57) (M := [(4, .int (Int32.ofInt (-4))), (3, .int z34), (0, .ref 9), (1, .int x0), (2, .int x1)]) rfl rfl rfl rfl ?_
            refine h_iconst (pc' := 58) (x := (Int32.ofInt 0)) rfl rfl rfl ?_
            refine h_istore (pc' := 60) (M := [(5, .int (Int32.ofInt 0)), (4, .int (Int32.ofInt (-4))), (3, .int z34), (0, .ref 9), (1, .int x0), (2, .int x1)]) rfl rfl rfl rfl ?_
            exact h_wk [(0, .ref 9), (1, .int x0), (2, .int x1), (3, .int z34), (4, .int (Int32.ofInt (-4))), (5, .int (Int32.ofInt 0))] ⟨rfl, rfl, rfl, rfl, rfl, rfl, trivial⟩ ((n_matX_l ns σ hI x0 a0 hx0 x1 a1 hx1 kk 1000000000000).1 _ Is28 Fs28 z34 _ hz34 (Int32.ofInt (-4)) _ ci_m4 (by omega) (Int32.ofInt 0) _ ci_0 (by omega) (by omega) (by omega) (g_mi_0 (by have gs := g_2p_of hz30 hz29; obtain ⟨D, f, d1, d2, d3⟩ := ps28_0; have q8 := ps28_1; refine ⟨D, f, d1, d2, ?_⟩; refine Eq.trans (congrArg (s28 87) ?_) d3; rw [← q8]; omega) rfl rfl) (by omega) (by omega))
          · refine h_iconst (pc' := 9) (x := (Int32.ofInt 1)) rfl rfl rfl ?_
            refine h_goto (pc' := 13) rfl rfl ?_
            refine h_zret rfl rfl ci_1 (by omega) (h_Kv ?_)
            refine h_zeq (tg := 36) (pc' := 33) rfl rfl rfl ci_1 (fun c35 => absurd c35 (by omega)) (fun c35 => ?_)
            refine h_bipush (pc' := 35) (x := (Int32.ofInt (-3))) rfl rfl cb_m3 ?_
            exact h_iret rfl rfl (kk _ _ ci_m3 _ hI F00 (by first | exact Or.inl ⟨by omega, rfl⟩ | exact Or.inr (Or.inl ⟨by omega, by omega, rfl⟩)))
