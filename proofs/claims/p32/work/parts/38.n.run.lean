def kf_n_linkAll_23 : List Nat := [82943, 83967]
set_option maxHeartbeats 100000000 in
set_option maxHeartbeats 100000000 in
theorem n_linkAll_23_l (ns : Nat) (σ : h_S) (hI : h_I σ) (pr0 : σ 79 2 = σ 23 8) {Q : Option Value → h_S → Prop} (kk : ∀ (τ : h_S), h_I τ → h_F (k_in kf_n_linkAll_23) τ σ → (τ 80 = g_n1 (σ 23 8) (σ 25) (σ 24) (σ 26 2) (σ 27) (σ 28) 0 (σ 80)) → (g_fk (σ 30) (σ 31) (σ 29 2) (σ 81) (τ 81)) → Q none τ) : ∀ n : Nat, (∀ (s0 : h_S), h_I s0 → h_F (k_in kf_n_linkAll_23) s0 σ → ∀ (y2 : Int32) (b2 : Int), y2.toInt = b2 → (0 ≤ b2 ∧ b2 ≤ 6) → (g_n1 (σ 23 8) (σ 25) (σ 24) (σ 26 2) (σ 27) (σ 28) b2 (s0 80) = g_n1 (σ 23 8) (σ 25) (σ 24) (σ 26 2) (σ 27) (σ 28) 0 (σ 80)) → (s0 81 = σ 81) → (6 + 1 - b2) * 1000000 + 3000000000 ≤ (n : Int) → h_T g_P (g_Y ns) 24 2 [(0, .ref 79), (1, .ref 23), (2, .int y2)] [] s0 Q) ∧ (∀ (s0 : h_S), h_I s0 → h_F (k_in kf_n_linkAll_23) s0 σ → ∀ (y2 : Int32) (b2 : Int), y2.toInt = b2 → (0 ≤ b2 ∧ b2 ≤ 3) → (g_n2 (σ 26 2) (σ 27) (σ 28) b2 (s0 80) = g_n1 (σ 23 8) (σ 25) (σ 24) (σ 26 2) (σ 27) (σ 28) 0 (σ 80)) → (s0 81 = σ 81) → (3 + 1 - b2) * 1000000 + 2000000000 ≤ (n : Int) → h_T g_P (g_Y ns) 24 51 [(0, .ref 79), (1, .ref 23), (2, .int y2)] [] s0 Q) ∧ (∀ (s0 : h_S), h_I s0 → h_F (k_in kf_n_linkAll_23) s0 σ → ∀ (y2 : Int32) (b2 : Int), y2.toInt = b2 → (0 ≤ b2 ∧ b2 ≤ 3) → (s0 80 = g_n1 (σ 23 8) (σ 25) (σ 24) (σ 26 2) (σ 27) (σ 28) 0 (σ 80)) → (g_fk (σ 30) (σ 31) b2 (σ 81) (s0 81)) → (b2 ≤ σ 29 2) → (3 + 1 - b2) * 1000000 + 1000000000 ≤ (n : Int) → h_T g_P (g_Y ns) 24 93 [(0, .ref 79), (1, .ref 23), (2, .int y2)] [] s0 Q) := by
  intro n
  induction n with
  | zero => exact ⟨by intro s0 I0 F0_ y2 b2 hy2 ry2 ex0 ex1 hm; have gh0 := F0_ 79 2 rfl; have gh1 := F0_ 23 8 rfl; have gh2 := F0_ 26 2 rfl; have gh3 := F0_ 29 2 rfl; have gh4 := tf_23_8 hI; have gh5 := tf_26_2 hI; have gh6 := tf_29_2 hI; have gh7 := pr0; exfalso; omega, by intro s0 I0 F0_ y2 b2 hy2 ry2 ex0 ex1 hm; have gh0 := F0_ 79 2 rfl; have gh1 := F0_ 23 8 rfl; have gh2 := F0_ 26 2 rfl; have gh3 := F0_ 29 2 rfl; have gh4 := tf_23_8 hI; have gh5 := tf_26_2 hI; have gh6 := tf_29_2 hI; have gh7 := pr0; exfalso; omega, by intro s0 I0 F0_ y2 b2 hy2 ry2 ex0 ex1 ex2 hm; have gh0 := F0_ 79 2 rfl; have gh1 := F0_ 23 8 rfl; have gh2 := F0_ 26 2 rfl; have gh3 := F0_ 29 2 rfl; have gh4 := tf_23_8 hI; have gh5 := tf_26_2 hI; have gh6 := tf_29_2 hI; have gh7 := pr0; exfalso; omega⟩
  | succ n ih =>
    refine ⟨?_, ?_, ?_⟩
    · intro s0 I0 F0_ y2 b2 hy2 ry2 ex0 ex1 hm; have gh0 := F0_ 79 2 rfl; have gh1 := F0_ 23 8 rfl; have gh2 := F0_ 26 2 rfl; have gh3 := F0_ 29 2 rfl; have gh4 := tf_23_8 hI; have gh5 := tf_26_2 hI; have gh6 := tf_29_2 hI; have gh7 := pr0
      refine h_iload_n (pc' := 3) rfl rfl rfl ?_
      refine h_aload_n (pc' := 4) rfl rfl rfl ?_
      refine h_getI (pc' := 7) (v := σ 79 2) rfl rfl rfl rfl rfl (F0_ 79 2 rfl) (fun z1 hz1 => ?_)
      have tz1 := tf_79_2 hI
      refine h_cge (tg := 49) (pc' := 10) rfl rfl rfl hy2 hz1 (fun c2 => ?_) (fun c2 => ?_)
      · refine h_iconst (pc' := 50) (x := (Int32.ofInt 0)) rfl rfl rfl ?_
        refine h_istore_n (pc' := 51) (M := [(2, .int (Int32.ofInt 0)), (0, .ref 79), (1, .ref 23)]) rfl rfl rfl rfl ?_
        exact h_wk [(0, .ref 79), (1, .ref 23), (2, .int (Int32.ofInt 0))] ⟨rfl, rfl, rfl, trivial⟩ (ih.2.1 _ I0 F0_ (Int32.ofInt 0) _ ci_0 (by omega) (g_n1_o ex0 (by omega) rfl) ex1 (by omega))
      · refine h_aload_n (pc' := 11) rfl rfl rfl ?_
        refine h_aload_n (pc' := 12) rfl rfl rfl ?_
        refine h_getR (pc' := 15) rfl rfl rfl rfl rfl ?_
        refine h_iload_n (pc' := 16) rfl rfl rfl ?_
        refine h_iald (pc' := 17) (v := σ 25 b2) rfl rfl rfl hy2 (by omega) (by omega) (F0_ 25 _ rfl) (fun z3 hz3 => ?_)
        have tz3 := ty_25 hI b2
        refine h_call (sp := false) (pc' := 20) (M := [(0, .ref 23), (1, .int z3)]) rfl rfl rfl rfl rfl rfl rfl rfl ?_
        refine h_iload_n (pc' := 1) rfl rfl rfl ?_
        refine h_zlt (tg := 16) (pc' := 4) rfl rfl rfl hz3 (fun c4 => ?_) (fun c4 => ?_)
        · refine h_iconst (pc' := 17) (x := (Int32.ofInt 0)) rfl rfl rfl ?_
          refine h_zret rfl rfl ci_0 (by omega) (h_Kv ?_)
          refine h_zeq (tg := 43) (pc' := 23) rfl rfl rfl ci_0 (fun c5 => ?_) (fun c5 => absurd c5 (by omega))
          refine h_iinc (pc' := 46) (M := fun z6 => [(2, .int z6), (0, .ref 79), (1, .ref 23)]) rfl rfl rfl rfl hy2 ci_1 rfl (by omega) (by omega) (fun _ => rfl) (fun z6 hz6 => ?_)
          refine h_goto (pc' := 2) rfl rfl ?_
          exact h_wk [(0, .ref 79), (1, .ref 23), (2, .int z6)] ⟨rfl, rfl, rfl, trivial⟩ (ih.1 _ I0 F0_ z6 _ hz6 (by omega) (g_n1_n ex0 (by omega) (by omega) (by omega) rfl (by omega) rfl) ex1 (by omega))
        · refine h_iload_n (pc' := 5) rfl rfl rfl ?_
          refine h_aload_n (pc' := 6) rfl rfl rfl ?_
          refine h_getI (pc' := 9) (v := σ 23 8) rfl rfl rfl rfl rfl (F0_ 23 8 rfl) (fun z7 hz7 => ?_)
          have tz7 := tf_23_8 hI
          refine h_cge (tg := 16) (pc' := 12) rfl rfl rfl hz3 hz7 (fun c8 => ?_) (fun c8 => ?_)
          · refine h_iconst (pc' := 17) (x := (Int32.ofInt 0)) rfl rfl rfl ?_
            refine h_zret rfl rfl ci_0 (by omega) (h_Kv ?_)
            refine h_zeq (tg := 43) (pc' := 23) rfl rfl rfl ci_0 (fun c9 => ?_) (fun c9 => absurd c9 (by omega))
            refine h_iinc (pc' := 46) (M := fun z10 => [(2, .int z10), (0, .ref 79), (1, .ref 23)]) rfl rfl rfl rfl hy2 ci_1 rfl (by omega) (by omega) (fun _ => rfl) (fun z10 hz10 => ?_)
            refine h_goto (pc' := 2) rfl rfl ?_
            exact h_wk [(0, .ref 79), (1, .ref 23), (2, .int z10)] ⟨rfl, rfl, rfl, trivial⟩ (ih.1 _ I0 F0_ z10 _ hz10 (by omega) (g_n1_n ex0 (by omega) (by omega) (by omega) rfl (by omega) rfl) ex1 (by omega))
          · refine h_iconst (pc' := 13) (x := (Int32.ofInt 1)) rfl rfl rfl ?_
            refine h_goto (pc' := 17) rfl rfl ?_
            refine h_zret rfl rfl ci_1 (by omega) (h_Kv ?_)
            refine h_zeq (tg := 43) (pc' := 23) rfl rfl rfl ci_1 (fun c11 => absurd c11 (by omega)) (fun c11 => ?_)
            refine h_aload_n (pc' := 24) rfl rfl rfl ?_
            refine h_iload_n (pc' := 25) rfl rfl rfl ?_
            refine h_aload_n (pc' := 26) rfl rfl rfl ?_
            refine h_getR (pc' := 29) rfl rfl rfl rfl rfl ?_
            refine h_iload_n (pc' := 30) rfl rfl rfl ?_
            refine h_iald (pc' := 31) (v := σ 25 b2) rfl rfl rfl hy2 (by omega) (by omega) (F0_ 25 _ rfl) (fun z12 hz12 => ?_)
            have tz12 := ty_25 hI b2
            refine h_aload_n (pc' := 32) rfl rfl rfl ?_
            refine h_getR (pc' := 35) rfl rfl rfl rfl rfl ?_
            refine h_iload_n (pc' := 36) rfl rfl rfl ?_
            refine h_iald (pc' := 37) (v := σ 24 b2) rfl rfl rfl hy2 (by omega) (by omega) (F0_ 24 _ rfl) (fun z13 hz13 => ?_)
            have tz13 := ty_24 hI b2
            refine h_calls (pc' := 40) (M := [(0, .int z13)]) rfl rfl rfl rfl rfl rfl ?_
            refine h_iload_n (pc' := 1) rfl rfl rfl ?_
            refine h_tsw (dt := 34) (ts := [28, 30, 32]) rfl rfl rfl rfl hz13 (fun c14 => ?_) ⟨fun c14 => ?_, fun c14 => ?_, fun c14 => ?_, trivial⟩
            · refine h_iconst (pc' := 35) (x := (Int32.ofInt 4)) rfl rfl rfl ?_
              refine h_iret rfl rfl (h_Kv ?_)
              refine h_call (sp := false) (pc' := 43) (M := [(0, .ref 79), (1, .int y2), (2, .int z12), (3, .int (Int32.ofInt 4))]) rfl rfl rfl rfl rfl rfl rfl rfl ?_
              refine n_join _ I0 y2 _ hy2 (by omega) z12 _ hz12 (by omega) (Int32.ofInt 4) _ ci_4 (by omega) (fun s16 Is16 Gs16 ps16_0 => h_Kn ?_)
              have Fs16 := (Gs16.mono (B := kf_n_linkAll_23) rfl).tr F0_
              have es16_0 : s16 98 13 = s0 98 13 := (Gs16 98 13 rfl).trans rfl
              refine h_iinc (pc' := 46) (M := fun z17 => [(2, .int z17), (0, .ref 79), (1, .ref 23)]) rfl rfl rfl rfl hy2 ci_1 rfl (by omega) (by omega) (fun _ => rfl) (fun z17 hz17 => ?_)
              refine h_goto (pc' := 2) rfl rfl ?_
              exact h_wk [(0, .ref 79), (1, .ref 23), (2, .int z17)] ⟨rfl, rfl, rfl, trivial⟩ (ih.1 _ Is16 Fs16 z17 _ hz17 (by omega) (g_n1_y ex0 (by omega) (by omega) (by omega) rfl (by omega) (by omega) (by first | exact g_tie_0 (Int.le_antisymm (by omega) (by omega)) rfl | exact g_tie_1 (Int.le_antisymm (by omega) (by omega)) rfl | exact g_tie_2 (Int.le_antisymm (by omega) (by omega)) rfl | exact g_tie_3 (Int.le_antisymm (by omega) (by omega)) rfl) ps16_0) ((funext (fun j => Gs16 81 j rfl)).trans ex1) (by omega))
            · refine h_iconst (pc' := 29) (x := (Int32.ofInt 1)) rfl rfl rfl ?_
              refine h_iret rfl rfl (h_Kv ?_)
              refine h_call (sp := false) (pc' := 43) (M := [(0, .ref 79), (1, .int y2), (2, .int z12), (3, .int (Int32.ofInt 1))]) rfl rfl rfl rfl rfl rfl rfl rfl ?_
              refine n_join _ I0 y2 _ hy2 (by omega) z12 _ hz12 (by omega) (Int32.ofInt 1) _ ci_1 (by omega) (fun s19 Is19 Gs19 ps19_0 => h_Kn ?_)
              have Fs19 := (Gs19.mono (B := kf_n_linkAll_23) rfl).tr F0_
              have es19_0 : s19 98 13 = s0 98 13 := (Gs19 98 13 rfl).trans rfl
              refine h_iinc (pc' := 46) (M := fun z20 => [(2, .int z20), (0, .ref 79), (1, .ref 23)]) rfl rfl rfl rfl hy2 ci_1 rfl (by omega) (by omega) (fun _ => rfl) (fun z20 hz20 => ?_)
              refine h_goto (pc' := 2) rfl rfl ?_
              exact h_wk [(0, .ref 79), (1, .ref 23), (2, .int z20)] ⟨rfl, rfl, rfl, trivial⟩ (ih.1 _ Is19 Fs19 z20 _ hz20 (by omega) (g_n1_y ex0 (by omega) (by omega) (by omega) rfl (by omega) (by omega) (by first | exact g_tie_0 (Int.le_antisymm (by omega) (by omega)) rfl | exact g_tie_1 (Int.le_antisymm (by omega) (by omega)) rfl | exact g_tie_2 (Int.le_antisymm (by omega) (by omega)) rfl | exact g_tie_3 (Int.le_antisymm (by omega) (by omega)) rfl) ps19_0) ((funext (fun j => Gs19 81 j rfl)).trans ex1) (by omega))
            · refine h_iconst (pc' := 31) (x := (Int32.ofInt 2)) rfl rfl rfl ?_
              refine h_iret rfl rfl (h_Kv ?_)
              refine h_call (sp := false) (pc' := 43) (M := [(0, .ref 79), (1, .int y2), (2, .int z12), (3, .int (Int32.ofInt 2))]) rfl rfl rfl rfl rfl rfl rfl rfl ?_
              refine n_join _ I0 y2 _ hy2 (by omega) z12 _ hz12 (by omega) (Int32.ofInt 2) _ ci_2 (by omega) (fun s22 Is22 Gs22 ps22_0 => h_Kn ?_)
              have Fs22 := (Gs22.mono (B := kf_n_linkAll_23) rfl).tr F0_
              have es22_0 : s22 98 13 = s0 98 13 := (Gs22 98 13 rfl).trans rfl
              refine h_iinc (pc' := 46) (M := fun z23 => [(2, .int z23), (0, .ref 79), (1, .ref 23)]) rfl rfl rfl rfl hy2 ci_1 rfl (by omega) (by omega) (fun _ => rfl) (fun z23 hz23 => ?_)
              refine h_goto (pc' := 2) rfl rfl ?_
              exact h_wk [(0, .ref 79), (1, .ref 23), (2, .int z23)] ⟨rfl, rfl, rfl, trivial⟩ (ih.1 _ Is22 Fs22 z23 _ hz23 (by omega) (g_n1_y ex0 (by omega) (by omega) (by omega) rfl (by omega) (by omega) (by first | exact g_tie_0 (Int.le_antisymm (by omega) (by omega)) rfl | exact g_tie_1 (Int.le_antisymm (by omega) (by omega)) rfl | exact g_tie_2 (Int.le_antisymm (by omega) (by omega)) rfl | exact g_tie_3 (Int.le_antisymm (by omega) (by omega)) rfl) ps22_0) ((funext (fun j => Gs22 81 j rfl)).trans ex1) (by omega))
            · refine h_iconst (pc' := 33) (x := (Int32.ofInt 0)) rfl rfl rfl ?_
              refine h_iret rfl rfl (h_Kv ?_)
              refine h_call (sp := false) (pc' := 43) (M := [(0, .ref 79), (1, .int y2), (2, .int z12), (3, .int (Int32.ofInt 0))]) rfl rfl rfl rfl rfl rfl rfl rfl ?_
              refine n_join _ I0 y2 _ hy2 (by omega) z12 _ hz12 (by omega) (Int32.ofInt 0) _ ci_0 (by omega) (fun s25 Is25 Gs25 ps25_0 => h_Kn ?_)
              have Fs25 := (Gs25.mono (B := kf_n_linkAll_23) rfl).tr F0_
              have es25_0 : s25 98 13 = s0 98 13 := (Gs25 98 13 rfl).trans rfl
              refine h_iinc (pc' := 46) (M := fun z26 => [(2, .int z26), (0, .ref 79), (1, .ref 23)]) rfl rfl rfl rfl hy2 ci_1 rfl (by omega) (by omega) (fun _ => rfl) (fun z26 hz26 => ?_)
              refine h_goto (pc' := 2) rfl rfl ?_
              exact h_wk [(0, .ref 79), (1, .ref 23), (2, .int z26)] ⟨rfl, rfl, rfl, trivial⟩ (ih.1 _ Is25 Fs25 z26 _ hz26 (by omega) (g_n1_y ex0 (by omega) (by omega) (by omega) rfl (by omega) (by omega) (by first | exact g_tie_0 (Int.le_antisymm (by omega) (by omega)) rfl | exact g_tie_1 (Int.le_antisymm (by omega) (by omega)) rfl | exact g_tie_2 (Int.le_antisymm (by omega) (by omega)) rfl | exact g_tie_3 (Int.le_antisymm (by omega) (by omega)) rfl) ps25_0) ((funext (fun j => Gs25 81 j rfl)).trans ex1) (by omega))
    · intro s0 I0 F0_ y2 b2 hy2 ry2 ex0 ex1 hm; have gh0 := F0_ 79 2 rfl; have gh1 := F0_ 23 8 rfl; have gh2 := F0_ 26 2 rfl; have gh3 := F0_ 29 2 rfl; have gh4 := tf_23_8 hI; have gh5 := tf_26_2 hI; have gh6 := tf_29_2 hI; have gh7 := pr0
      refine h_iload_n (pc' := 52) rfl rfl rfl ?_
      refine h_aload_n (pc' := 53) rfl rfl rfl ?_
      refine h_getR (pc' := 56) rfl rfl rfl rfl rfl ?_
      refine h_getI (pc' := 59) (v := σ 26 2) rfl rfl rfl rfl rfl (F0_ 26 2 rfl) (fun z1 hz1 => ?_)
      have tz1 := tf_26_2 hI
      refine h_cge (tg := 91) (pc' := 62) rfl rfl rfl hy2 hz1 (fun c2 => ?_) (fun c2 => ?_)
      · refine h_iconst (pc' := 92) (x := (Int32.ofInt 0)) rfl rfl rfl ?_
        refine h_istore_n (pc' := 93) (M := [(2, .int (Int32.ofInt 0)), (0, .ref 79), (1, .ref 23)]) rfl rfl rfl rfl ?_
        exact h_wk [(0, .ref 79), (1, .ref 23), (2, .int (Int32.ofInt 0))] ⟨rfl, rfl, rfl, trivial⟩ (ih.2.2 _ I0 F0_ (Int32.ofInt 0) _ ci_0 (by omega) (g_n2_o ex0 (by omega) rfl) (g_fk_0 ex1) (by omega) (by omega))
      · refine h_aload_n (pc' := 63) rfl rfl rfl ?_
        refine h_aload_n (pc' := 64) rfl rfl rfl ?_
        refine h_getR (pc' := 67) rfl rfl rfl rfl rfl ?_
        refine h_getR (pc' := 70) rfl rfl rfl rfl rfl ?_
        refine h_iload_n (pc' := 71) rfl rfl rfl ?_
        refine h_iald (pc' := 72) (v := σ 27 b2) rfl rfl rfl hy2 (by omega) (by omega) (F0_ 27 _ rfl) (fun z3 hz3 => ?_)
        have tz3 := ty_27 hI b2
        refine h_aload_n (pc' := 73) rfl rfl rfl ?_
        refine h_getR (pc' := 76) rfl rfl rfl rfl rfl ?_
        refine h_getR (pc' := 79) rfl rfl rfl rfl rfl ?_
        refine h_iload_n (pc' := 80) rfl rfl rfl ?_
        refine h_iald (pc' := 81) (v := σ 28 b2) rfl rfl rfl hy2 (by omega) (by omega) (F0_ 28 _ rfl) (fun z4 hz4 => ?_)
        have tz4 := ty_28 hI b2
        refine h_iconst (pc' := 82) (x := (Int32.ofInt 1)) rfl rfl rfl ?_
        refine h_call (sp := false) (pc' := 85) (M := [(0, .ref 79), (1, .int z3), (2, .int z4), (3, .int (Int32.ofInt 1))]) rfl rfl rfl rfl rfl rfl rfl rfl ?_
        refine n_join _ I0 z3 _ hz3 (by omega) z4 _ hz4 (by omega) (Int32.ofInt 1) _ ci_1 (by omega) (fun s6 Is6 Gs6 ps6_0 => h_Kn ?_)
        have Fs6 := (Gs6.mono (B := kf_n_linkAll_23) rfl).tr F0_
        have es6_0 : s6 98 13 = s0 98 13 := (Gs6 98 13 rfl).trans rfl
        refine h_iinc (pc' := 88) (M := fun z7 => [(2, .int z7), (0, .ref 79), (1, .ref 23)]) rfl rfl rfl rfl hy2 ci_1 rfl (by omega) (by omega) (fun _ => rfl) (fun z7 hz7 => ?_)
        refine h_goto (pc' := 51) rfl rfl ?_
        exact h_wk [(0, .ref 79), (1, .ref 23), (2, .int z7)] ⟨rfl, rfl, rfl, trivial⟩ (ih.2.1 _ Is6 Fs6 z7 _ hz7 (by omega) (g_n2_y ex0 (by omega) (by omega) (by omega) rfl rfl ps6_0) ((funext (fun j => Gs6 81 j rfl)).trans ex1) (by omega))
    · intro s0 I0 F0_ y2 b2 hy2 ry2 ex0 ex1 ex2 hm; have gh0 := F0_ 79 2 rfl; have gh1 := F0_ 23 8 rfl; have gh2 := F0_ 26 2 rfl; have gh3 := F0_ 29 2 rfl; have gh4 := tf_23_8 hI; have gh5 := tf_26_2 hI; have gh6 := tf_29_2 hI; have gh7 := pr0
      refine h_iload_n (pc' := 94) rfl rfl rfl ?_
      refine h_aload_n (pc' := 95) rfl rfl rfl ?_
      refine h_getR (pc' := 98) rfl rfl rfl rfl rfl ?_
      refine h_getI (pc' := 101) (v := σ 29 2) rfl rfl rfl rfl rfl (F0_ 29 2 rfl) (fun z1 hz1 => ?_)
      have tz1 := tf_29_2 hI
      refine h_cge (tg := 157) (pc' := 104) rfl rfl rfl hy2 hz1 (fun c2 => ?_) (fun c2 => ?_)
      · exact h_vret rfl rfl (kk _ I0 F0_ ex0 (g_fk_k ex1 (by omega) (by omega)))
      · refine h_aload_n (pc' := 105) rfl rfl rfl ?_
        refine h_getR (pc' := 108) rfl rfl rfl rfl rfl ?_
        refine h_getR (pc' := 111) rfl rfl rfl rfl rfl ?_
        refine h_iload_n (pc' := 112) rfl rfl rfl ?_
        refine h_iald (pc' := 113) (v := σ 30 b2) rfl rfl rfl hy2 (by omega) (by omega) (F0_ 30 _ rfl) (fun z3 hz3 => ?_)
        have tz3 := ty_30 hI b2
        refine h_istore_n (pc' := 114) (M := [(3, .int z3), (0, .ref 79), (1, .ref 23), (2, .int y2)]) rfl rfl rfl rfl ?_
        refine h_aload_n (pc' := 115) rfl rfl rfl ?_
        refine h_getR (pc' := 118) rfl rfl rfl rfl rfl ?_
        refine h_getR (pc' := 121) rfl rfl rfl rfl rfl ?_
        refine h_iload_n (pc' := 122) rfl rfl rfl ?_
        refine h_iald (pc' := 123) (v := σ 31 b2) rfl rfl rfl hy2 (by omega) (by omega) (F0_ 31 _ rfl) (fun z4 hz4 => ?_)
        have tz4 := ty_31 hI b2
        refine h_istore (pc' := 125) (M := [(4, .int z4), (3, .int z3), (0, .ref 79), (1, .ref 23), (2, .int y2)]) rfl rfl rfl rfl ?_
        refine h_aload_n (pc' := 126) rfl rfl rfl ?_
        refine h_getR (pc' := 129) rfl rfl rfl rfl rfl ?_
        refine h_iload_n (pc' := 130) rfl rfl rfl ?_
        refine h_dup2 (pc' := 131) rfl rfl rfl ?_
        refine h_iald (pc' := 132) (v := s0 81 (σ 30 b2)) rfl rfl rfl hz3 (by omega) (by omega) rfl (fun z5 hz5 => ?_)
        have tz5 := ty_81 I0 (σ 30 b2)
        refine h_iconst (pc' := 133) (x := (Int32.ofInt 1)) rfl rfl rfl ?_
        refine h_iload (pc' := 135) rfl rfl rfl ?_
        refine h_shl1 (pc' := 136) rfl rfl ci_1 hz4 (by omega) (by omega) (fun z6 hz6 vz6 => ?_)
        refine h_ior (pc' := 137) rfl rfl (fun z7 hz7 => ?_)
        refine h_iast (pc' := 138) rfl rfl rfl rfl hz3 (by omega) (by omega) rfl (h_fgt (E := fun s => s 98 13 = s0 98 13 ∧ s = h_up s0 81 (σ 30 b2) z7.toInt) _ (in_81 I0 (h_rgv rfl)) (F0_.up rfl) ⟨rfl, rfl⟩ (fun s8 Is8 Fs8 (es8 : s8 98 13 = s0 98 13 ∧ s8 = h_up s0 81 (σ 30 b2) z7.toInt) => ?_))
        have us8 := es8.2
        refine h_aload_n (pc' := 139) rfl rfl rfl ?_
        refine h_getR (pc' := 142) rfl rfl rfl rfl rfl ?_
        refine h_iload (pc' := 144) rfl rfl rfl ?_
        refine h_dup2 (pc' := 145) rfl rfl rfl ?_
        refine h_iald (pc' := 146) (v := s8 81 (σ 31 b2)) rfl rfl rfl hz4 (by omega) (by omega) rfl (fun z9 hz9 => ?_)
        have tz9 := ty_81 Is8 (σ 31 b2)
        refine h_iconst (pc' := 147) (x := (Int32.ofInt 1)) rfl rfl rfl ?_
        refine h_iload_n (pc' := 148) rfl rfl rfl ?_
        refine h_shl1 (pc' := 149) rfl rfl ci_1 hz3 (by omega) (by omega) (fun z10 hz10 vz10 => ?_)
        refine h_ior (pc' := 150) rfl rfl (fun z11 hz11 => ?_)
        refine h_iast (pc' := 151) rfl rfl rfl rfl hz4 (by omega) (by omega) rfl (h_fgt (E := fun s => s 98 13 = s0 98 13 ∧ s = h_up s8 81 (σ 31 b2) z11.toInt) _ (in_81 Is8 (h_rgv rfl)) (Fs8.up rfl) ⟨es8.1, rfl⟩ (fun s12 Is12 Fs12 (es12 : s12 98 13 = s0 98 13 ∧ s12 = h_up s8 81 (σ 31 b2) z11.toInt) => ?_))
        clear es8
        have us12 := es12.2
        refine h_iinc (pc' := 154) (M := fun z13 => [(2, .int z13), (4, .int z4), (3, .int z3), (0, .ref 79), (1, .ref 23)]) rfl rfl rfl rfl hy2 ci_1 rfl (by omega) (by omega) (fun _ => rfl) (fun z13 hz13 => ?_)
        refine h_goto (pc' := 93) rfl rfl ?_
        exact h_wk [(0, .ref 79), (1, .ref 23), (2, .int z13)] ⟨rfl, rfl, rfl, trivial⟩ (ih.2.2 _ Is12 Fs12 z13 _ hz13 (by omega) ((h_upg us12 rfl).trans ((h_upg us8 rfl).trans ex0)) (g_fk_s ex1 (by omega) rfl rfl (by omega) (by omega) (h_upf us8) rfl (fun i i0 i9 => g_bi_or hz7 hz6 hz4 hz5 (by omega) (by omega) i0 i9) (h_upf us12) rfl (fun i i0 i9 => g_bi_or hz11 hz10 hz3 hz9 (by omega) (by omega) i0 i9)) (by omega) (by omega))
set_option maxHeartbeats 100000000 in
set_option maxHeartbeats 100000000 in
theorem n_linkAll_23 {ns : Nat} (σ : h_S) (hI : h_I σ) (pr0 : σ 79 2 = σ 23 8) {Q : Option Value → h_S → Prop} (kk : ∀ (τ : h_S), h_I τ → h_F (k_in kf_n_linkAll_23) τ σ → (τ 80 = g_n1 (σ 23 8) (σ 25) (σ 24) (σ 26 2) (σ 27) (σ 28) 0 (σ 80)) → (g_fk (σ 30) (σ 31) (σ 29 2) (σ 81) (τ 81)) → Q none τ) : h_T g_P (g_Y ns) 24 0 [(0, .ref 79), (1, .ref 23)] [] σ Q := by
  have F00 : h_F (k_in kf_n_linkAll_23) σ σ := h_F.rf
  refine h_iconst (pc' := 1) (x := (Int32.ofInt 0)) rfl rfl rfl ?_
  refine h_istore_n (pc' := 2) (M := [(2, .int (Int32.ofInt 0)), (0, .ref 79), (1, .ref 23)]) rfl rfl rfl rfl ?_
  exact h_wk [(0, .ref 79), (1, .ref 23), (2, .int (Int32.ofInt 0))] ⟨rfl, rfl, rfl, trivial⟩ ((n_linkAll_23_l ns σ hI pr0 kk 1000000000000).1 _ hI F00 (Int32.ofInt 0) _ ci_0 (by omega) rfl rfl (by omega))
def kf_n_measure_23 : List Nat := [80898, 82943, 83967]
set_option maxHeartbeats 100000000 in
set_option maxHeartbeats 100000000 in
theorem n_measure_23_l (ns : Nat) (σ : h_S) (hI : h_I σ) {Q : Option Value → h_S → Prop} (kk : ∀ (τ : h_S), h_I τ → h_F (k_in kf_n_measure_23) τ σ → (g_DX (σ 23 8) (σ 25) (σ 24) (σ 26 2) (σ 27) (σ 28) (τ 80)) → (τ 79 2 = σ 23 8) → (g_FX (σ 23 8) (σ 30) (σ 31) (σ 29 2) (τ 81)) → Q none τ) : ∀ n : Nat, (∀ (s0 : h_S), h_I s0 → h_F (k_in kf_n_measure_23) s0 σ → ∀ (y2 : Int32) (b2 : Int), y2.toInt = b2 → (0 ≤ b2 ∧ b2 ≤ 6) → (s0 79 2 = σ 23 8) → (g_ix (σ 23 8) b2 0 (s0 80)) → (g_z0 b2 (s0 81)) → (6 + 1 - b2) * 1000000 + 1000000000 ≤ (n : Int) → h_T g_P (g_Y ns) 23 10 [(0, .ref 79), (1, .ref 23), (2, .int y2)] [] s0 Q) ∧ (∀ (s0 : h_S), h_I s0 → h_F (k_in kf_n_measure_23) s0 σ → ∀ (y2 : Int32) (b2 : Int), y2.toInt = b2 → (0 ≤ b2 ∧ b2 ≤ 5) → ∀ (y3 : Int32) (b3 : Int), y3.toInt = b3 → (0 ≤ b3 ∧ b3 ≤ 6) → (s0 79 2 = σ 23 8) → (b2 < σ 23 8) → (g_ix (σ 23 8) b2 b3 (s0 80)) → (g_z0 (b2 + 1) (s0 81)) → ((6 + 1 - b2) - 1) * 1000000 + 1000000000 + (6 + 1 - b3) * 1000 + 100000 ≤ (n : Int) → h_T g_P (g_Y ns) 23 27 [(0, .ref 79), (1, .ref 23), (2, .int y2), (3, .int y3)] [] s0 Q) := by
  intro n
  induction n with
  | zero => exact ⟨by intro s0 I0 F0_ y2 b2 hy2 ry2 ex0 ex1 ex2 hm; have gh0 := F0_ 23 8 rfl; have gh1 := tf_23_8 hI; exfalso; omega, by intro s0 I0 F0_ y2 b2 hy2 ry2 y3 b3 hy3 ry3 ex0 ex1 ex2 ex3 hm; have gh0 := F0_ 23 8 rfl; have gh1 := tf_23_8 hI; exfalso; omega⟩
  | succ n ih =>
    refine ⟨?_, ?_⟩
    · intro s0 I0 F0_ y2 b2 hy2 ry2 ex0 ex1 ex2 hm; have gh0 := F0_ 23 8 rfl; have gh1 := tf_23_8 hI
      refine h_iload_n (pc' := 11) rfl rfl rfl ?_
      refine h_aload_n (pc' := 12) rfl rfl rfl ?_
      refine h_getI (pc' := 15) (v := s0 79 2) rfl rfl rfl rfl rfl rfl (fun z1 hz1 => ?_)
      have tz1 := tf_79_2 I0
      refine h_cge (tg := 70) (pc' := 18) rfl rfl rfl hy2 hz1 (fun c2 => ?_) (fun c2 => ?_)
      · refine h_aload_n (pc' := 71) rfl rfl rfl ?_
        refine h_aload_n (pc' := 72) rfl rfl rfl ?_
        refine h_call (sp := false) (pc' := 75) (M := [(0, .ref 79), (1, .ref 23)]) rfl rfl rfl rfl rfl rfl rfl rfl ?_
        refine n_linkAll_23 _ I0  (by omega) (fun s4 Is4 Gs4 ps4_0 ps4_1 => h_Kn ?_)
        have Fs4 := (Gs4.mono (B := kf_n_measure_23) rfl).tr F0_
        have es4_0 : s4 79 2 = s0 79 2 := (Gs4 79 2 rfl).trans rfl
        refine h_aload_n (pc' := 76) rfl rfl rfl ?_
        refine h_call (sp := false) (pc' := 79) (M := [(0, .ref 79)]) rfl rfl rfl rfl rfl rfl rfl rfl ?_
        refine n_shorten _ Is4  (fun s6 Is6 Gs6 ps6_0 => h_Kn ?_)
        have Fs6 := (Gs6.mono (B := kf_n_measure_23) rfl).tr Fs4
        have es6_0 : s6 79 2 = s0 79 2 := (Gs6 79 2 rfl).trans es4_0
        exact h_vret rfl rfl (kk _ Is6 Fs6 (g_DX_mk (g_ix_x ex1 (by omega)) ps6_0 (by omega) ps4_0 (F0_ 23 8 rfl) (funext (fun j => F0_ 25 j rfl)) (funext (fun j => F0_ 24 j rfl)) (F0_ 26 2 rfl) (funext (fun j => F0_ 27 j rfl)) (funext (fun j => F0_ 28 j rfl))) (by omega) (g_FX_mk ps4_1 (funext (fun j => Gs6 81 j rfl)) ex2 (by omega) (funext (fun j => F0_ 30 j rfl)) (funext (fun j => F0_ 31 j rfl)) (F0_ 29 2 rfl)))
      · refine h_aload_n (pc' := 19) rfl rfl rfl ?_
        refine h_getR (pc' := 22) rfl rfl rfl rfl rfl ?_
        refine h_iload_n (pc' := 23) rfl rfl rfl ?_
        refine h_iconst (pc' := 24) (x := (Int32.ofInt 0)) rfl rfl rfl ?_
        refine h_iast (pc' := 25) rfl rfl rfl rfl hy2 (by omega) (by omega) ci_0 (h_fgt (E := fun s => s 79 2 = s0 79 2 ∧ s = h_up s0 81 b2 0) _ (in_81 I0 (h_rgv ci_0)) (F0_.up rfl) ⟨rfl, rfl⟩ (fun s7 Is7 Fs7 (es7 : s7 79 2 = s0 79 2 ∧ s7 = h_up s0 81 b2 0) => ?_))
        have us7 := es7.2
        refine h_iconst (pc' := 26) (x := (Int32.ofInt 0)) rfl rfl rfl ?_
        refine h_istore_n (pc' := 27) (M := [(3, .int (Int32.ofInt 0)), (0, .ref 79), (1, .ref 23), (2, .int y2)]) rfl rfl rfl rfl ?_
        exact h_wk [(0, .ref 79), (1, .ref 23), (2, .int y2), (3, .int (Int32.ofInt 0))] ⟨rfl, rfl, rfl, rfl, trivial⟩ (ih.2 _ Is7 Fs7 y2 _ hy2 (by omega) (Int32.ofInt 0) _ ci_0 (by omega) (by omega) (by omega) (g_ix_e ex1 (h_upg us7 rfl) rfl rfl) (g_z0_s ex2 rfl rfl (h_upf us7)) (by omega))
    · intro s0 I0 F0_ y2 b2 hy2 ry2 y3 b3 hy3 ry3 ex0 ex1 ex2 ex3 hm; have gh0 := F0_ 23 8 rfl; have gh1 := tf_23_8 hI
      refine h_iload_n (pc' := 28) rfl rfl rfl ?_
      refine h_aload_n (pc' := 29) rfl rfl rfl ?_
      refine h_getI (pc' := 32) (v := s0 79 2) rfl rfl rfl rfl rfl rfl (fun z1 hz1 => ?_)
      have tz1 := tf_79_2 I0
      refine h_cge (tg := 64) (pc' := 35) rfl rfl rfl hy3 hz1 (fun c2 => ?_) (fun c2 => ?_)
      · refine h_iinc (pc' := 67) (M := fun z3 => [(2, .int z3), (0, .ref 79), (1, .ref 23), (3, .int y3)]) rfl rfl rfl rfl hy2 ci_1 rfl (by omega) (by omega) (fun _ => rfl) (fun z3 hz3 => ?_)
        refine h_goto (pc' := 10) rfl rfl ?_
        exact h_wk [(0, .ref 79), (1, .ref 23), (2, .int z3)] ⟨rfl, rfl, rfl, trivial⟩ (ih.1 _ I0 F0_ z3 _ hz3 (by omega) (by omega) (g_ix_r ex2 (by omega) rfl) ex3 (by omega))
      · refine h_aload_n (pc' := 36) rfl rfl rfl ?_
        refine h_getR (pc' := 39) rfl rfl rfl rfl rfl ?_
        refine h_iload_n (pc' := 40) rfl rfl rfl ?_
        refine h_bipush (pc' := 42) (x := (Int32.ofInt 6)) rfl rfl cb_6 ?_
        refine h_imul (pc' := 43) rfl rfl hy2 ci_6 rfl (by omega) (by omega) (fun z4 hz4 => ?_)
        refine h_iload_n (pc' := 44) rfl rfl rfl ?_
        refine h_iadd (pc' := 45) rfl rfl hz4 hy3 rfl (by omega) (by omega) (fun z5 hz5 => ?_)
        refine h_iload_n (pc' := 46) rfl rfl rfl ?_
        refine h_iload_n (pc' := 47) rfl rfl rfl ?_
        refine h_cne (tg := 54) (pc' := 50) rfl rfl rfl hy2 hy3 (fun c6 => ?_) (fun c6 => ?_)
        · refine h_sipush (pc' := 57) (x := (Int32.ofInt 1000)) rfl rfl cs_1000 ?_
          refine h_iast (pc' := 58) rfl rfl rfl rfl hz5 (by omega) (by omega) ci_1000 (h_fgt (E := fun s => s 79 2 = s0 79 2 ∧ s = h_up s0 80 ((b2 * 6) + b3) 1000) _ (in_80 I0 (by omega)) (F0_.up rfl) ⟨rfl, rfl⟩ (fun s7 Is7 Fs7 (es7 : s7 79 2 = s0 79 2 ∧ s7 = h_up s0 80 ((b2 * 6) + b3) 1000) => ?_))
          have us7 := es7.2
          refine h_iinc (pc' := 61) (M := fun z8 => [(3, .int z8), (0, .ref 79), (1, .ref 23), (2, .int y2)]) rfl rfl rfl rfl hy3 ci_1 rfl (by omega) (by omega) (fun _ => rfl) (fun z8 hz8 => ?_)
          refine h_goto (pc' := 27) rfl rfl ?_
          exact h_wk [(0, .ref 79), (1, .ref 23), (2, .int y2), (3, .int z8)] ⟨rfl, rfl, rfl, rfl, trivial⟩ (ih.2 _ Is7 Fs7 y2 _ hy2 (by omega) z8 _ hz8 (by omega) (by omega) (by omega) (g_ix_s ex2 (by omega) (by omega) (by omega) (by omega) rfl (by omega) (h_upf us7)) (g_z0_e ex3 (h_upg us7 rfl)) (by omega))
        · refine h_iconst (pc' := 51) (x := (Int32.ofInt 0)) rfl rfl rfl ?_
          refine h_goto (pc' := 57) rfl rfl ?_
          refine h_iast (pc' := 58) rfl rfl rfl rfl hz5 (by omega) (by omega) ci_0 (h_fgt (E := fun s => s 79 2 = s0 79 2 ∧ s = h_up s0 80 ((b2 * 6) + b3) 0) _ (in_80 I0 (by omega)) (F0_.up rfl) ⟨rfl, rfl⟩ (fun s9 Is9 Fs9 (es9 : s9 79 2 = s0 79 2 ∧ s9 = h_up s0 80 ((b2 * 6) + b3) 0) => ?_))
          have us9 := es9.2
          refine h_iinc (pc' := 61) (M := fun z10 => [(3, .int z10), (0, .ref 79), (1, .ref 23), (2, .int y2)]) rfl rfl rfl rfl hy3 ci_1 rfl (by omega) (by omega) (fun _ => rfl) (fun z10 hz10 => ?_)
          refine h_goto (pc' := 27) rfl rfl ?_
          exact h_wk [(0, .ref 79), (1, .ref 23), (2, .int y2), (3, .int z10)] ⟨rfl, rfl, rfl, rfl, trivial⟩ (ih.2 _ Is9 Fs9 y2 _ hy2 (by omega) z10 _ hz10 (by omega) (by omega) (by omega) (g_ix_s ex2 (by omega) (by omega) (by omega) (by omega) rfl (by omega) (h_upf us9)) (g_z0_e ex3 (h_upg us9 rfl)) (by omega))
set_option maxHeartbeats 100000000 in
set_option maxHeartbeats 100000000 in
theorem n_measure_23 {ns : Nat} (σ : h_S) (hI : h_I σ) {Q : Option Value → h_S → Prop} (kk : ∀ (τ : h_S), h_I τ → h_F (k_in kf_n_measure_23) τ σ → (g_DX (σ 23 8) (σ 25) (σ 24) (σ 26 2) (σ 27) (σ 28) (τ 80)) → (τ 79 2 = σ 23 8) → (g_FX (σ 23 8) (σ 30) (σ 31) (σ 29 2) (τ 81)) → Q none τ) : h_T g_P (g_Y ns) 23 0 [(0, .ref 79), (1, .ref 23)] [] σ Q := by
  have F00 : h_F (k_in kf_n_measure_23) σ σ := h_F.rf
  have ge0 := tf_23_8 hI
  refine h_aload_n (pc' := 1) rfl rfl rfl ?_
  refine h_aload_n (pc' := 2) rfl rfl rfl ?_
  refine h_getI (pc' := 5) (v := σ 23 8) rfl rfl rfl rfl rfl rfl (fun z1 hz1 => ?_)
  have tz1 := tf_23_8 hI
  refine h_put (pc' := 8) rfl rfl rfl rfl rfl rfl hz1 rfl (h_fgt (E := fun s => s 79 2 = (σ 23 8) ∧ s = h_up σ 79 2 (σ 23 8)) _ (if_79_2 hI (by omega)) (F00.up rfl) ⟨rfl, rfl⟩ (fun s2 Is2 Fs2 (es2 : s2 79 2 = (σ 23 8) ∧ s2 = h_up σ 79 2 (σ 23 8)) => ?_))
  have us2 := es2.2
  refine h_iconst (pc' := 9) (x := (Int32.ofInt 0)) rfl rfl rfl ?_
  refine h_istore_n (pc' := 10) (M := [(2, .int (Int32.ofInt 0)), (0, .ref 79), (1, .ref 23)]) rfl rfl rfl rfl ?_
  exact h_wk [(0, .ref 79), (1, .ref 23), (2, .int (Int32.ofInt 0))] ⟨rfl, rfl, rfl, trivial⟩ ((n_measure_23_l ns σ hI  kk 1000000000000).1 _ Is2 Fs2 (Int32.ofInt 0) _ ci_0 (by omega) (by omega) g_ix_0 g_z0_0 (by omega))
def kf_n_open_23 : List Nat := [86015]
set_option maxHeartbeats 100000000 in
set_option maxHeartbeats 100000000 in
theorem n_open_23_l (ns : Nat) (σ : h_S) (hI : h_I σ) {Q : Option Value → h_S → Prop} (kk : ∀ (τ : h_S), h_I τ → h_F (k_in kf_n_open_23) τ σ → (g_op (σ 79 2) (σ 80) (σ 81) (σ 32) (σ 23 9) 0 (τ 83)) → Q none τ) : ∀ n : Nat, (∀ (s0 : h_S), h_I s0 → h_F (k_in kf_n_open_23) s0 σ → ∀ (y3 : Int32) (b3 : Int), y3.toInt = b3 → (0 ≤ b3 ∧ b3 ≤ 3) → (g_op (σ 79 2) (σ 80) (σ 81) (σ 32) b3 0 (s0 83)) → (3 + 1 - b3) * 1000000 + 1000000000 ≤ (n : Int) → h_T g_P (g_Y ns) 18 2 [(0, .ref 82), (1, .ref 23), (2, .ref 79), (3, .int y3)] [] s0 Q) ∧ (∀ (s0 : h_S), h_I s0 → h_F (k_in kf_n_open_23) s0 σ → ∀ (y3 : Int32) (b3 : Int), y3.toInt = b3 → (0 ≤ b3 ∧ b3 ≤ 2) → ∀ (y4 : Int32) (b4 : Int), y4.toInt = b4 → (0 ≤ b4 ∧ b4 ≤ 7) → (b3 < σ 23 9) → (g_op (σ 79 2) (σ 80) (σ 81) (σ 32) b3 b4 (s0 83)) → ((3 + 1 - b3) - 1) * 1000000 + 1000000000 + (7 + 1 - b4) * 1000 + 100000 ≤ (n : Int) → h_T g_P (g_Y ns) 18 13 [(0, .ref 82), (1, .ref 23), (2, .ref 79), (3, .int y3), (4, .int y4)] [] s0 Q) := by
  intro n
  induction n with
  | zero => exact ⟨by intro s0 I0 F0_ y3 b3 hy3 ry3 ex0 hm; have gh0 := F0_ 23 9 rfl; have gh1 := tf_23_9 hI; exfalso; omega, by intro s0 I0 F0_ y3 b3 hy3 ry3 y4 b4 hy4 ry4 ex0 ex1 hm; have gh0 := F0_ 23 9 rfl; have gh1 := tf_23_9 hI; exfalso; omega⟩
  | succ n ih =>
    refine ⟨?_, ?_⟩
    · intro s0 I0 F0_ y3 b3 hy3 ry3 ex0 hm; have gh0 := F0_ 23 9 rfl; have gh1 := tf_23_9 hI
      refine h_iload_n (pc' := 3) rfl rfl rfl ?_
      refine h_aload_n (pc' := 4) rfl rfl rfl ?_
      refine h_getI (pc' := 7) (v := σ 23 9) rfl rfl rfl rfl rfl (F0_ 23 9 rfl) (fun z1 hz1 => ?_)
      have tz1 := tf_23_9 hI
      refine h_cge (tg := 56) (pc' := 10) rfl rfl rfl hy3 hz1 (fun c2 => ?_) (fun c2 => ?_)
      · exact h_vret rfl rfl (kk _ I0 F0_ (g_op_k ex0 (by omega)))
      · refine h_iconst (pc' := 11) (x := (Int32.ofInt 0)) rfl rfl rfl ?_
        refine h_istore (pc' := 13) (M := [(4, .int (Int32.ofInt 0)), (0, .ref 82), (1, .ref 23), (2, .ref 79), (3, .int y3)]) rfl rfl rfl rfl ?_
        exact h_wk [(0, .ref 82), (1, .ref 23), (2, .ref 79), (3, .int y3), (4, .int (Int32.ofInt 0))] ⟨rfl, rfl, rfl, rfl, rfl, trivial⟩ (ih.2 _ I0 F0_ y3 _ hy3 (by omega) (Int32.ofInt 0) _ ci_0 (by omega) (by omega) ex0 (by omega))
    · intro s0 I0 F0_ y3 b3 hy3 ry3 y4 b4 hy4 ry4 ex0 ex1 hm; have gh0 := F0_ 23 9 rfl; have gh1 := tf_23_9 hI
      refine h_iload (pc' := 15) rfl rfl rfl ?_
      refine h_bipush (pc' := 17) (x := (Int32.ofInt 6)) rfl rfl cb_6 ?_
      refine h_cgt (tg := 50) (pc' := 20) rfl rfl rfl hy4 ci_6 (fun c1 => ?_) (fun c1 => ?_)
      · refine h_iinc (pc' := 53) (M := fun z2 => [(3, .int z2), (0, .ref 82), (1, .ref 23), (2, .ref 79), (4, .int y4)]) rfl rfl rfl rfl hy3 ci_1 rfl (by omega) (by omega) (fun _ => rfl) (fun z2 hz2 => ?_)
        refine h_goto (pc' := 2) rfl rfl ?_
        exact h_wk [(0, .ref 82), (1, .ref 23), (2, .ref 79), (3, .int z2)] ⟨rfl, rfl, rfl, rfl, trivial⟩ (ih.1 _ I0 F0_ z2 _ hz2 (by omega) (g_op_r ex1 (by omega) rfl) (by omega))
      · refine h_aload_n (pc' := 21) rfl rfl rfl ?_
        refine h_getR (pc' := 24) rfl rfl rfl rfl rfl ?_
        refine h_iload_n (pc' := 25) rfl rfl rfl ?_
        refine h_bipush (pc' := 27) (x := (Int32.ofInt 7)) rfl rfl cb_7 ?_
        refine h_imul (pc' := 28) rfl rfl hy3 ci_7 rfl (by omega) (by omega) (fun z3 hz3 => ?_)
        refine h_iload (pc' := 30) rfl rfl rfl ?_
        refine h_iadd (pc' := 31) rfl rfl hz3 hy4 rfl (by omega) (by omega) (fun z4 hz4 => ?_)
        refine h_aload_n (pc' := 32) rfl rfl rfl ?_
        refine h_iload (pc' := 34) rfl rfl rfl ?_
        refine h_aload_n (pc' := 35) rfl rfl rfl ?_
        refine h_getR (pc' := 38) rfl rfl rfl rfl rfl ?_
        refine h_iload_n (pc' := 39) rfl rfl rfl ?_
        refine h_iald (pc' := 40) (v := σ 32 b3) rfl rfl rfl hy3 (by omega) (by omega) (F0_ 32 _ rfl) (fun z5 hz5 => ?_)
        have tz5 := ty_32 hI b3
        refine h_call (sp := false) (pc' := 43) (M := [(0, .ref 79), (1, .int y4), (2, .int z5)]) rfl rfl rfl rfl rfl rfl rfl rfl ?_
        refine n_let _ I0 y4 _ hy4 z5 _ hz5 (fun r6 br6 hr6 ps7_0 => h_Kv ?_)
        refine h_iast (pc' := 44) rfl rfl rfl rfl hz4 (by omega) (by omega) hr6 (h_fgt (E := fun s => s 98 13 = s0 98 13 ∧ s = h_up s0 83 ((b3 * 7) + b4) br6) _ (in_83 I0 (h_rgv hr6)) (F0_.up rfl) ⟨rfl, rfl⟩ (fun s8 Is8 Fs8 (es8 : s8 98 13 = s0 98 13 ∧ s8 = h_up s0 83 ((b3 * 7) + b4) br6) => ?_))
        have us8 := es8.2
        refine h_iinc (pc' := 47) (M := fun z9 => [(4, .int z9), (0, .ref 82), (1, .ref 23), (2, .ref 79), (3, .int y3)]) rfl rfl rfl rfl hy4 ci_1 rfl (by omega) (by omega) (fun _ => rfl) (fun z9 hz9 => ?_)
        refine h_goto (pc' := 13) rfl rfl ?_
        exact h_wk [(0, .ref 82), (1, .ref 23), (2, .ref 79), (3, .int y3), (4, .int z9)] ⟨rfl, rfl, rfl, rfl, rfl, trivial⟩ (ih.2 _ Is8 Fs8 y3 _ hy3 (by omega) z9 _ hz9 (by omega) (by omega) (g_op_s ex1 (by omega) (by omega) (by omega) (h_upf us8) rfl (hr6.symm.trans (congrArg Int32.toInt (ps7_0.trans (g_bl_e (F0_ 79 2 rfl) (funext (fun j => F0_ 80 j rfl)) (funext (fun j => F0_ 81 j rfl))))))) (by omega))
set_option maxHeartbeats 100000000 in
set_option maxHeartbeats 100000000 in
theorem n_open_23 {ns : Nat} (σ : h_S) (hI : h_I σ) {Q : Option Value → h_S → Prop} (kk : ∀ (τ : h_S), h_I τ → h_F (k_in kf_n_open_23) τ σ → (g_op (σ 79 2) (σ 80) (σ 81) (σ 32) (σ 23 9) 0 (τ 83)) → Q none τ) : h_T g_P (g_Y ns) 18 0 [(0, .ref 82), (1, .ref 23), (2, .ref 79)] [] σ Q := by
  have F00 : h_F (k_in kf_n_open_23) σ σ := h_F.rf
  refine h_iconst (pc' := 1) (x := (Int32.ofInt 0)) rfl rfl rfl ?_
  refine h_istore_n (pc' := 2) (M := [(3, .int (Int32.ofInt 0)), (0, .ref 82), (1, .ref 23), (2, .ref 79)]) rfl rfl rfl rfl ?_
  exact h_wk [(0, .ref 82), (1, .ref 23), (2, .ref 79), (3, .int (Int32.ofInt 0))] ⟨rfl, rfl, rfl, rfl, trivial⟩ ((n_open_23_l ns σ hI  kk 1000000000000).1 _ hI F00 (Int32.ofInt 0) _ ci_0 (by omega) g_op_0 (by omega))
def kf_n_restart_23 : List Nat := [83970, 87039]
set_option maxHeartbeats 100000000 in
set_option maxHeartbeats 100000000 in
theorem n_restart_23_l (ns : Nat) (σ : h_S) (hI : h_I σ) {Q : Option Value → h_S → Prop} (kk : ∀ (τ : h_S), h_I τ → h_F (k_in kf_n_restart_23) τ σ → (τ 82 2 = 0) → (g_cq (σ 23 9) (σ 33) (τ 84)) → Q none τ) : ∀ n : Nat, (∀ (s0 : h_S), h_I s0 → h_F (k_in kf_n_restart_23) s0 σ → ∀ (y2 : Int32) (b2 : Int), y2.toInt = b2 → (0 ≤ b2 ∧ b2 ≤ 3) → (s0 82 2 = 0) → (g_cq b2 (σ 33) (s0 84)) → (3 + 1 - b2) * 1000000 + 1000000000 ≤ (n : Int) → h_T g_P (g_Y ns) 19 7 [(0, .ref 82), (1, .ref 23), (2, .int y2)] [] s0 Q) := by
  intro n
  induction n with
  | zero => exact by intro s0 I0 F0_ y2 b2 hy2 ry2 ex0 ex1 hm; have gh0 := F0_ 23 9 rfl; have gh1 := tf_23_9 hI; exfalso; omega
  | succ n ih =>
    intro s0 I0 F0_ y2 b2 hy2 ry2 ex0 ex1 hm; have gh0 := F0_ 23 9 rfl; have gh1 := tf_23_9 hI
    refine h_iload_n (pc' := 8) rfl rfl rfl ?_
    refine h_aload_n (pc' := 9) rfl rfl rfl ?_
    refine h_getI (pc' := 12) (v := σ 23 9) rfl rfl rfl rfl rfl (F0_ 23 9 rfl) (fun z1 hz1 => ?_)
    have tz1 := tf_23_9 hI
    refine h_cge (tg := 33) (pc' := 15) rfl rfl rfl hy2 hz1 (fun c2 => ?_) (fun c2 => ?_)
    · exact h_vret rfl rfl (kk _ I0 F0_ (by omega) (g_cq_k ex1 (by omega)))
    · refine h_aload_n (pc' := 16) rfl rfl rfl ?_
      refine h_getR (pc' := 19) rfl rfl rfl rfl rfl ?_
      refine h_iload_n (pc' := 20) rfl rfl rfl ?_
      refine h_aload_n (pc' := 21) rfl rfl rfl ?_
      refine h_getR (pc' := 24) rfl rfl rfl rfl rfl ?_
      refine h_iload_n (pc' := 25) rfl rfl rfl ?_
      refine h_iald (pc' := 26) (v := σ 33 b2) rfl rfl rfl hy2 (by omega) (by omega) (F0_ 33 _ rfl) (fun z3 hz3 => ?_)
      have tz3 := ty_33 hI b2
      refine h_iast (pc' := 27) rfl rfl rfl rfl hy2 (by omega) (by omega) hz3 (h_fgt (E := fun s => s 82 2 = s0 82 2 ∧ s = h_up s0 84 b2 (σ 33 b2)) _ (in_84 I0 (by omega)) (F0_.up rfl) ⟨rfl, rfl⟩ (fun s4 Is4 Fs4 (es4 : s4 82 2 = s0 82 2 ∧ s4 = h_up s0 84 b2 (σ 33 b2)) => ?_))
      have us4 := es4.2
      refine h_iinc (pc' := 30) (M := fun z5 => [(2, .int z5), (0, .ref 82), (1, .ref 23)]) rfl rfl rfl rfl hy2 ci_1 rfl (by omega) (by omega) (fun _ => rfl) (fun z5 hz5 => ?_)
      refine h_goto (pc' := 7) rfl rfl ?_
      exact h_wk [(0, .ref 82), (1, .ref 23), (2, .int z5)] ⟨rfl, rfl, rfl, trivial⟩ (ih _ Is4 Fs4 z5 _ hz5 (by omega) (by omega) (g_cq_s ex1 (h_upf us4) rfl rfl) (by omega))
set_option maxHeartbeats 100000000 in
set_option maxHeartbeats 100000000 in
theorem n_restart_23 {ns : Nat} (σ : h_S) (hI : h_I σ) {Q : Option Value → h_S → Prop} (kk : ∀ (τ : h_S), h_I τ → h_F (k_in kf_n_restart_23) τ σ → (τ 82 2 = 0) → (g_cq (σ 23 9) (σ 33) (τ 84)) → Q none τ) : h_T g_P (g_Y ns) 19 0 [(0, .ref 82), (1, .ref 23)] [] σ Q := by
  have F00 : h_F (k_in kf_n_restart_23) σ σ := h_F.rf
  refine h_aload_n (pc' := 1) rfl rfl rfl ?_
  refine h_iconst (pc' := 2) (x := (Int32.ofInt 0)) rfl rfl rfl ?_
  refine h_put (pc' := 5) rfl rfl rfl rfl rfl rfl ci_0 rfl (h_fgt (E := fun s => s 82 2 = 0 ∧ s = h_up σ 82 2 0) _ (if_82_2 hI (h_rgv ci_0)) (F00.up rfl) ⟨rfl, rfl⟩ (fun s1 Is1 Fs1 (es1 : s1 82 2 = 0 ∧ s1 = h_up σ 82 2 0) => ?_))
  have us1 := es1.2
  refine h_iconst (pc' := 6) (x := (Int32.ofInt 0)) rfl rfl rfl ?_
  refine h_istore_n (pc' := 7) (M := [(2, .int (Int32.ofInt 0)), (0, .ref 82), (1, .ref 23)]) rfl rfl rfl rfl ?_
  exact h_wk [(0, .ref 82), (1, .ref 23), (2, .int (Int32.ofInt 0))] ⟨rfl, rfl, rfl, trivial⟩ ((n_restart_23_l ns σ hI  kk 1000000000000) _ Is1 Fs1 (Int32.ofInt 0) _ ci_0 (by omega) (by omega) g_cq_0 (by omega))
def kf_n_lays_176 : List Nat := [108543]
set_option maxHeartbeats 100000000 in
set_option maxHeartbeats 100000000 in
theorem n_lays_176_l (ns : Nat) (σ : h_S) (hI : h_I σ) {Q : Option Value → h_S → Prop} (kk : ∀ (τ : h_S), h_I τ → h_F (k_in kf_n_lays_176) τ σ → (g_DM (σ 98 1) (σ 99 194) (fun j => σ 99 (176 + j)) (σ 100) (τ 105)) → Q none τ) : ∀ n : Nat, (∀ (s0 : h_S), h_I s0 → h_F (k_in kf_n_lays_176) s0 σ → ∀ (y2 : Int32) (b2 : Int), y2.toInt = b2 → (0 ≤ b2 ∧ b2 ≤ 36) → (g_im b2 (s0 105)) → (36 + 1 - b2) * 1000000 + 4000000000 ≤ (n : Int) → h_T g_P (g_Y ns) 162 2 [(0, .ref 98), (1, .int (Int32.ofInt 176)), (2, .int y2)] [] s0 Q) ∧ (∀ (s0 : h_S), h_I s0 → h_F (k_in kf_n_lays_176) s0 σ → ∀ (y2 : Int32) (b2 : Int), y2.toInt = b2 → (0 ≤ b2 ∧ b2 ≤ 6) → (g_DM (σ 98 1) (σ 99 194) (fun j => σ 99 (176 + j)) (σ 100) (gd_v1 (σ 98 1) (σ 99 194) (fun j => σ 99 (176 + j)) (σ 100) b2 (s0 105))) → (6 + 1 - b2) * 1000000 + 3000000000 ≤ (n : Int) → h_T g_P (g_Y ns) 162 39 [(0, .ref 98), (1, .int (Int32.ofInt 176)), (2, .int y2)] [] s0 Q) ∧ (∀ (s0 : h_S), h_I s0 → h_F (k_in kf_n_lays_176) s0 σ → ∀ (y2 : Int32) (b2 : Int), y2.toInt = b2 → (0 ≤ b2 ∧ b2 ≤ 3) → (g_DM (σ 98 1) (σ 99 194) (fun j => σ 99 (176 + j)) (σ 100) (gd_v2 (σ 98 1) (σ 99 194) (fun j => σ 99 (176 + j)) b2 (s0 105))) → (3 + 1 - b2) * 1000000 + 2000000000 ≤ (n : Int) → h_T g_P (g_Y ns) 162 100 [(0, .ref 98), (1, .int (Int32.ofInt 176)), (2, .int y2)] [] s0 Q) ∧ (∀ (s0 : h_S), h_I s0 → h_F (k_in kf_n_lays_176) s0 σ → ∀ (y2 : Int32) (b2 : Int), y2.toInt = b2 → (0 ≤ b2 ∧ b2 ≤ 6) → (g_DM (σ 98 1) (σ 99 194) (fun j => σ 99 (176 + j)) (σ 100) (gd_v4 (σ 98 1) b2 (s0 105))) → (6 + 1 - b2) * 1000000 + 1000000000 ≤ (n : Int) → h_T g_P (g_Y ns) 162 157 [(0, .ref 98), (1, .int (Int32.ofInt 176)), (2, .int y2)] [] s0 Q) ∧ (∀ (s0 : h_S), h_I s0 → h_F (k_in kf_n_lays_176) s0 σ → ∀ (y2 : Int32) (b2 : Int), y2.toInt = b2 → (0 ≤ b2 ∧ b2 ≤ 5) → ∀ (y3 : Int32) (b3 : Int), y3.toInt = b3 → (0 ≤ b3 ∧ b3 ≤ 36) → (b2 < σ 98 1) → (g_DM (σ 98 1) (σ 99 194) (fun j => σ 99 (176 + j)) (σ 100) (gd_v5 (σ 98 1) b2 b3 (s0 105))) → ((6 + 1 - b2) - 1) * 1000000 + 1000000000 + (36 + 1 - b3) * 1000 + 100000 ≤ (n : Int) → h_T g_P (g_Y ns) 162 167 [(0, .ref 98), (1, .int (Int32.ofInt 176)), (2, .int y2), (3, .int y3)] [] s0 Q) := by
  intro n
  induction n with
  | zero => exact ⟨by intro s0 I0 F0_ y2 b2 hy2 ry2 ex0 hm; have gh0 := F0_ 98 1 rfl; have gh1 := F0_ 99 194 rfl; have gh2 := tf_98_1 hI; have gh3 := ty_99_3 hI 194 (by omega); exfalso; omega, by intro s0 I0 F0_ y2 b2 hy2 ry2 ex0 hm; have gh0 := F0_ 98 1 rfl; have gh1 := F0_ 99 194 rfl; have gh2 := tf_98_1 hI; have gh3 := ty_99_3 hI 194 (by omega); exfalso; omega, by intro s0 I0 F0_ y2 b2 hy2 ry2 ex0 hm; have gh0 := F0_ 98 1 rfl; have gh1 := F0_ 99 194 rfl; have gh2 := tf_98_1 hI; have gh3 := ty_99_3 hI 194 (by omega); exfalso; omega, by intro s0 I0 F0_ y2 b2 hy2 ry2 ex0 hm; have gh0 := F0_ 98 1 rfl; have gh1 := F0_ 99 194 rfl; have gh2 := tf_98_1 hI; have gh3 := ty_99_3 hI 194 (by omega); exfalso; omega, by intro s0 I0 F0_ y2 b2 hy2 ry2 y3 b3 hy3 ry3 ex0 ex1 hm; have gh0 := F0_ 98 1 rfl; have gh1 := F0_ 99 194 rfl; have gh2 := tf_98_1 hI; have gh3 := ty_99_3 hI 194 (by omega); exfalso; omega⟩
  | succ n ih =>
    refine ⟨?_, ?_, ?_, ?_, ?_⟩
    · intro s0 I0 F0_ y2 b2 hy2 ry2 ex0 hm; have gh0 := F0_ 98 1 rfl; have gh1 := F0_ 99 194 rfl; have gh2 := tf_98_1 hI; have gh3 := ty_99_3 hI 194 (by omega)
      refine h_iload_n (pc' := 3) rfl rfl rfl ?_
      refine h_bipush (pc' := 5) (x := (Int32.ofInt 36)) rfl rfl cb_36 ?_
      refine h_cge (tg := 37) (pc' := 8) rfl rfl rfl hy2 ci_36 (fun c1 => ?_) (fun c1 => ?_)
      · refine h_iconst (pc' := 38) (x := (Int32.ofInt 0)) rfl rfl rfl ?_
        refine h_istore_n (pc' := 39) (M := [(2, .int (Int32.ofInt 0)), (0, .ref 98), (1, .int (Int32.ofInt 176))]) rfl rfl rfl rfl ?_
        exact h_wk [(0, .ref 98), (1, .int (Int32.ofInt 176)), (2, .int (Int32.ofInt 0))] ⟨rfl, rfl, rfl, trivial⟩ (ih.2.1 _ I0 F0_ (Int32.ofInt 0) _ ci_0 (by omega) ⟨s0 105, g_im_x ex0 (by omega), rfl⟩ (by omega))
      · refine h_aload_n (pc' := 9) rfl rfl rfl ?_
        refine h_getR (pc' := 12) rfl rfl rfl rfl rfl ?_
        refine h_iload_n (pc' := 13) rfl rfl rfl ?_
        refine h_iload_n (pc' := 14) rfl rfl rfl ?_
        refine h_bipush (pc' := 16) (x := (Int32.ofInt 6)) rfl rfl cb_6 ?_
        refine h_idiv (pc' := 17) rfl rfl hy2 ci_6 (by omega) (by omega) (fun z2 hz2 => ?_)
        refine h_iload_n (pc' := 18) rfl rfl rfl ?_
        refine h_bipush (pc' := 20) (x := (Int32.ofInt 6)) rfl rfl cb_6 ?_
        refine h_irem (pc' := 21) rfl rfl hy2 ci_6 (by omega) (by omega) (fun z3 hz3 => ?_)
        refine h_cne (tg := 28) (pc' := 24) rfl rfl rfl hz2 hz3 (fun c4 => ?_) (fun c4 => ?_)
        · refine h_ldc (pc' := 30) (x := (Int32.ofInt 1000000)) rfl rfl rfl ?_
          refine h_iast (pc' := 31) rfl rfl rfl rfl hy2 (by omega) (by omega) ci_1000000 (h_fgt (E := fun s => s 98 13 = s0 98 13 ∧ s = h_up s0 105 b2 1000000) _ (in_105 I0 (by omega)) (F0_.up rfl) ⟨rfl, rfl⟩ (fun s5 Is5 Fs5 (es5 : s5 98 13 = s0 98 13 ∧ s5 = h_up s0 105 b2 1000000) => ?_))
          have us5 := es5.2
          refine h_iinc (pc' := 34) (M := fun z6 => [(2, .int z6), (0, .ref 98), (1, .int (Int32.ofInt 176))]) rfl rfl rfl rfl hy2 ci_1 rfl (by omega) (by omega) (fun _ => rfl) (fun z6 hz6 => ?_)
          refine h_goto (pc' := 2) rfl rfl ?_
          exact h_wk [(0, .ref 98), (1, .int (Int32.ofInt 176)), (2, .int z6)] ⟨rfl, rfl, rfl, trivial⟩ (ih.1 _ Is5 Fs5 z6 _ hz6 (by omega) (g_im_s ex0 rfl (by omega) (h_upf us5)) (by omega))
        · refine h_iconst (pc' := 25) (x := (Int32.ofInt 0)) rfl rfl rfl ?_
          refine h_goto (pc' := 30) rfl rfl ?_
          refine h_iast (pc' := 31) rfl rfl rfl rfl hy2 (by omega) (by omega) ci_0 (h_fgt (E := fun s => s 98 13 = s0 98 13 ∧ s = h_up s0 105 b2 0) _ (in_105 I0 (by omega)) (F0_.up rfl) ⟨rfl, rfl⟩ (fun s7 Is7 Fs7 (es7 : s7 98 13 = s0 98 13 ∧ s7 = h_up s0 105 b2 0) => ?_))
          have us7 := es7.2
          refine h_iinc (pc' := 34) (M := fun z8 => [(2, .int z8), (0, .ref 98), (1, .int (Int32.ofInt 176))]) rfl rfl rfl rfl hy2 ci_1 rfl (by omega) (by omega) (fun _ => rfl) (fun z8 hz8 => ?_)
          refine h_goto (pc' := 2) rfl rfl ?_
          exact h_wk [(0, .ref 98), (1, .int (Int32.ofInt 176)), (2, .int z8)] ⟨rfl, rfl, rfl, trivial⟩ (ih.1 _ Is7 Fs7 z8 _ hz8 (by omega) (g_im_s ex0 rfl (by omega) (h_upf us7)) (by omega))
    · intro s0 I0 F0_ y2 b2 hy2 ry2 ex0 hm; have gh0 := F0_ 98 1 rfl; have gh1 := F0_ 99 194 rfl; have gh2 := tf_98_1 hI; have gh3 := ty_99_3 hI 194 (by omega)
      refine h_iload_n (pc' := 40) rfl rfl rfl ?_
      refine h_aload_n (pc' := 41) rfl rfl rfl ?_
      refine h_getI (pc' := 44) (v := σ 98 1) rfl rfl rfl rfl rfl (F0_ 98 1 rfl) (fun z1 hz1 => ?_)
      have tz1 := tf_98_1 hI
      refine h_cge (tg := 98) (pc' := 47) rfl rfl rfl hy2 hz1 (fun c2 => ?_) (fun c2 => ?_)
      · refine h_iconst (pc' := 99) (x := (Int32.ofInt 0)) rfl rfl rfl ?_
        refine h_istore_n (pc' := 100) (M := [(2, .int (Int32.ofInt 0)), (0, .ref 98), (1, .int (Int32.ofInt 176))]) rfl rfl rfl rfl ?_
        exact h_wk [(0, .ref 98), (1, .int (Int32.ofInt 176)), (2, .int (Int32.ofInt 0))] ⟨rfl, rfl, rfl, trivial⟩ (ih.2.2.1 _ I0 F0_ (Int32.ofInt 0) _ ci_0 (by omega) (g_DM_e ex0 (gd_v1_o rfl (by omega) rfl)) (by omega))
      · refine h_aload_n (pc' := 48) rfl rfl rfl ?_
        refine h_getR (pc' := 51) rfl rfl rfl rfl rfl ?_
        refine h_iload_n (pc' := 52) rfl rfl rfl ?_
        refine h_bipush (pc' := 54) (x := (Int32.ofInt 6)) rfl rfl cb_6 ?_
        refine h_iadd (pc' := 55) (c := 182) rfl rfl ci_176 ci_6 rfl (by omega) (by omega) (fun z3 hz3 => ?_)
        refine h_iload_n (pc' := 56) rfl rfl rfl ?_
        refine h_iadd (pc' := 57) rfl rfl hz3 hy2 rfl (by omega) (by omega) (fun z4 hz4 => ?_)
        refine h_iald (pc' := 58) (v := σ 99 (182 + b2)) rfl rfl rfl hz4 (by omega) (by omega) (F0_ 99 _ rfl) (fun z5 hz5 => ?_)
        have tz5 := ty_99_1 hI (182 + b2) (by omega)
        refine h_zle (tg := 92) (pc' := 61) rfl rfl rfl hz5 (fun c6 => ?_) (fun c6 => ?_)
        · refine h_iinc (pc' := 95) (M := fun z7 => [(2, .int z7), (0, .ref 98), (1, .int (Int32.ofInt 176))]) rfl rfl rfl rfl hy2 ci_1 rfl (by omega) (by omega) (fun _ => rfl) (fun z7 hz7 => ?_)
          refine h_goto (pc' := 39) rfl rfl ?_
          exact h_wk [(0, .ref 98), (1, .int (Int32.ofInt 176)), (2, .int z7)] ⟨rfl, rfl, rfl, trivial⟩ (ih.2.1 _ I0 F0_ z7 _ hz7 (by omega) (g_DM_e ex0 (gd_v1_n rfl (by omega) (by omega) (by omega) (x := σ 99 (182 + b2)) (congrArg (fun z => σ 99 z) (show _ = 176 + (6 + b2) by omega)) (by omega) rfl)) (by omega))
        · refine h_aload_n (pc' := 62) rfl rfl rfl ?_
          refine h_iload_n (pc' := 63) rfl rfl rfl ?_
          refine h_aload_n (pc' := 64) rfl rfl rfl ?_
          refine h_getR (pc' := 67) rfl rfl rfl rfl rfl ?_
          refine h_iload_n (pc' := 68) rfl rfl rfl ?_
          refine h_bipush (pc' := 70) (x := (Int32.ofInt 6)) rfl rfl cb_6 ?_
          refine h_iadd (pc' := 71) (c := 182) rfl rfl ci_176 ci_6 rfl (by omega) (by omega) (fun z8 hz8 => ?_)
          refine h_iload_n (pc' := 72) rfl rfl rfl ?_
          refine h_iadd (pc' := 73) rfl rfl hz8 hy2 rfl (by omega) (by omega) (fun z9 hz9 => ?_)
          refine h_iald (pc' := 74) (v := σ 99 (182 + b2)) rfl rfl rfl hz9 (by omega) (by omega) (F0_ 99 _ rfl) (fun z10 hz10 => ?_)
          have tz10 := ty_99_1 hI (182 + b2) (by omega)
          refine h_iconst (pc' := 75) (x := (Int32.ofInt 1)) rfl rfl rfl ?_
          refine h_isub (pc' := 76) rfl rfl hz10 ci_1 rfl (by omega) (by omega) (fun z11 hz11 => ?_)
          refine h_aload_n (pc' := 77) rfl rfl rfl ?_
          refine h_getR (pc' := 80) rfl rfl rfl rfl rfl ?_
          refine h_aload_n (pc' := 81) rfl rfl rfl ?_
          refine h_getR (pc' := 84) rfl rfl rfl rfl rfl ?_
          refine h_iload_n (pc' := 85) rfl rfl rfl ?_
          refine h_iload_n (pc' := 86) rfl rfl rfl ?_
          refine h_iadd (pc' := 87) rfl rfl ci_176 hy2 rfl (by omega) (by omega) (fun z12 hz12 => ?_)
          refine h_iald (pc' := 88) (v := σ 99 (176 + b2)) rfl rfl rfl hz12 (by omega) (by omega) (F0_ 99 _ rfl) (fun z13 hz13 => ?_)
          have tz13 := ty_99_0 hI (176 + b2) (by omega)
          refine h_iald (pc' := 89) (v := σ 100 (σ 99 (176 + b2))) rfl rfl rfl hz13 (by omega) (by omega) (F0_ 100 _ rfl) (fun z14 hz14 => ?_)
          have tz14 := ty_100 hI (σ 99 (176 + b2))
          refine h_call (sp := false) (pc' := 92) (M := [(0, .ref 98), (1, .int y2), (2, .int z11), (3, .int z14)]) rfl rfl rfl rfl rfl rfl rfl rfl ?_
          refine n_links _ I0 y2 _ hy2 (by omega) z11 _ hz11 (by omega) z14 _ hz14 (by omega) (fun s16 Is16 Gs16 ps16_0 => h_Kn ?_)
          have Fs16 := (Gs16.mono (B := kf_n_lays_176) rfl).tr F0_
          have es16_0 : s16 98 13 = s0 98 13 := (Gs16 98 13 rfl).trans rfl
          refine h_iinc (pc' := 95) (M := fun z17 => [(2, .int z17), (0, .ref 98), (1, .int (Int32.ofInt 176))]) rfl rfl rfl rfl hy2 ci_1 rfl (by omega) (by omega) (fun _ => rfl) (fun z17 hz17 => ?_)
          refine h_goto (pc' := 39) rfl rfl ?_
          exact h_wk [(0, .ref 98), (1, .int (Int32.ofInt 176)), (2, .int z17)] ⟨rfl, rfl, rfl, trivial⟩ (ih.2.1 _ Is16 Fs16 z17 _ hz17 (by omega) (g_DM_e ex0 (gd_v1_y rfl (by omega) (by omega) (by omega) (x := σ 99 (182 + b2) - 1) (congrArg (fun z => σ 99 z - 1) (show _ = 176 + (6 + b2) by omega)) (by omega) (v := σ 100 (σ 99 (176 + b2))) rfl ps16_0)) (by omega))
    · intro s0 I0 F0_ y2 b2 hy2 ry2 ex0 hm; have gh0 := F0_ 98 1 rfl; have gh1 := F0_ 99 194 rfl; have gh2 := tf_98_1 hI; have gh3 := ty_99_3 hI 194 (by omega)
      refine h_iload_n (pc' := 101) rfl rfl rfl ?_
      refine h_aload_n (pc' := 102) rfl rfl rfl ?_
      refine h_getR (pc' := 105) rfl rfl rfl rfl rfl ?_
      refine h_iload_n (pc' := 106) rfl rfl rfl ?_
      refine h_bipush (pc' := 108) (x := (Int32.ofInt 12)) rfl rfl cb_12 ?_
      refine h_iadd (pc' := 109) (c := 188) rfl rfl ci_176 ci_12 rfl (by omega) (by omega) (fun z1 hz1 => ?_)
      refine h_bipush (pc' := 111) (x := (Int32.ofInt 6)) rfl rfl cb_6 ?_
      refine h_iadd (pc' := 112) (c := 194) rfl rfl hz1 ci_6 rfl (by omega) (by omega) (fun z2 hz2 => ?_)
      refine h_iald (pc' := 113) (v := σ 99 194) rfl rfl rfl hz2 (by omega) (by omega) (F0_ 99 _ rfl) (fun z3 hz3 => ?_)
      have tz3 := ty_99_3 hI 194 (by omega)
      refine h_cge (tg := 155) (pc' := 116) rfl rfl rfl hy2 hz3 (fun c4 => ?_) (fun c4 => ?_)
      · refine h_iconst (pc' := 156) (x := (Int32.ofInt 0)) rfl rfl rfl ?_
        refine h_istore_n (pc' := 157) (M := [(2, .int (Int32.ofInt 0)), (0, .ref 98), (1, .int (Int32.ofInt 176))]) rfl rfl rfl rfl ?_
        exact h_wk [(0, .ref 98), (1, .int (Int32.ofInt 176)), (2, .int (Int32.ofInt 0))] ⟨rfl, rfl, rfl, trivial⟩ (ih.2.2.2.1 _ I0 F0_ (Int32.ofInt 0) _ ci_0 (by omega) (g_DM_e ex0 (gd_v2_o rfl (by omega) rfl)) (by omega))
      · refine h_aload_n (pc' := 117) rfl rfl rfl ?_
        refine h_aload_n (pc' := 118) rfl rfl rfl ?_
        refine h_getR (pc' := 121) rfl rfl rfl rfl rfl ?_
        refine h_iload_n (pc' := 122) rfl rfl rfl ?_
        refine h_bipush (pc' := 124) (x := (Int32.ofInt 12)) rfl rfl cb_12 ?_
        refine h_iadd (pc' := 125) (c := 188) rfl rfl ci_176 ci_12 rfl (by omega) (by omega) (fun z5 hz5 => ?_)
        refine h_iconst (pc' := 126) (x := (Int32.ofInt 2)) rfl rfl rfl ?_
        refine h_iload_n (pc' := 127) rfl rfl rfl ?_
        refine h_imul (pc' := 128) rfl rfl ci_2 hy2 rfl (by omega) (by omega) (fun z6 hz6 => ?_)
        refine h_iadd (pc' := 129) rfl rfl hz5 hz6 rfl (by omega) (by omega) (fun z7 hz7 => ?_)
        refine h_iald (pc' := 130) (v := σ 99 (188 + (2 * b2))) rfl rfl rfl hz7 (by omega) (by omega) (F0_ 99 _ rfl) (fun z8 hz8 => ?_)
        have tz8 := ty_99_2 hI (188 + (2 * b2)) (by omega)
        refine h_aload_n (pc' := 131) rfl rfl rfl ?_
        refine h_getR (pc' := 134) rfl rfl rfl rfl rfl ?_
        refine h_iload_n (pc' := 135) rfl rfl rfl ?_
        refine h_bipush (pc' := 137) (x := (Int32.ofInt 12)) rfl rfl cb_12 ?_
        refine h_iadd (pc' := 138) (c := 188) rfl rfl ci_176 ci_12 rfl (by omega) (by omega) (fun z9 hz9 => ?_)
        refine h_iconst (pc' := 139) (x := (Int32.ofInt 2)) rfl rfl rfl ?_
        refine h_iload_n (pc' := 140) rfl rfl rfl ?_
        refine h_imul (pc' := 141) rfl rfl ci_2 hy2 rfl (by omega) (by omega) (fun z10 hz10 => ?_)
        refine h_iadd (pc' := 142) rfl rfl hz9 hz10 rfl (by omega) (by omega) (fun z11 hz11 => ?_)
        refine h_iconst (pc' := 143) (x := (Int32.ofInt 1)) rfl rfl rfl ?_
        refine h_iadd (pc' := 144) rfl rfl hz11 ci_1 rfl (by omega) (by omega) (fun z12 hz12 => ?_)
        refine h_iald (pc' := 145) (v := σ 99 ((188 + (2 * b2)) + 1)) rfl rfl rfl hz12 (by omega) (by omega) (F0_ 99 _ rfl) (fun z13 hz13 => ?_)
        have tz13 := ty_99_2 hI ((188 + (2 * b2)) + 1) (by omega)
        refine h_iconst (pc' := 146) (x := (Int32.ofInt 1)) rfl rfl rfl ?_
        refine h_call (sp := false) (pc' := 149) (M := [(0, .ref 98), (1, .int z8), (2, .int z13), (3, .int (Int32.ofInt 1))]) rfl rfl rfl rfl rfl rfl rfl rfl ?_
        refine n_links _ I0 z8 _ hz8 (by omega) z13 _ hz13 (by omega) (Int32.ofInt 1) _ ci_1 (by omega) (fun s15 Is15 Gs15 ps15_0 => h_Kn ?_)
        have Fs15 := (Gs15.mono (B := kf_n_lays_176) rfl).tr F0_
        have es15_0 : s15 98 13 = s0 98 13 := (Gs15 98 13 rfl).trans rfl
        refine h_iinc (pc' := 152) (M := fun z16 => [(2, .int z16), (0, .ref 98), (1, .int (Int32.ofInt 176))]) rfl rfl rfl rfl hy2 ci_1 rfl (by omega) (by omega) (fun _ => rfl) (fun z16 hz16 => ?_)
        refine h_goto (pc' := 100) rfl rfl ?_
        exact h_wk [(0, .ref 98), (1, .int (Int32.ofInt 176)), (2, .int z16)] ⟨rfl, rfl, rfl, trivial⟩ (ih.2.2.1 _ Is15 Fs15 z16 _ hz16 (by omega) (g_DM_e ex0 (gd_v2_y rfl (by omega) (by omega) (by omega) (congrArg (fun z => σ 99 z) (show _ = 176 + (12 + 2 * b2) by omega)) (congrArg (fun z => σ 99 z) (show _ = 176 + (12 + 2 * b2 + 1) by omega)) ps15_0)) (by omega))
    · intro s0 I0 F0_ y2 b2 hy2 ry2 ex0 hm; have gh0 := F0_ 98 1 rfl; have gh1 := F0_ 99 194 rfl; have gh2 := tf_98_1 hI; have gh3 := ty_99_3 hI 194 (by omega)
      refine h_iload_n (pc' := 158) rfl rfl rfl ?_
      refine h_aload_n (pc' := 159) rfl rfl rfl ?_
      refine h_getI (pc' := 162) (v := σ 98 1) rfl rfl rfl rfl rfl (F0_ 98 1 rfl) (fun z1 hz1 => ?_)
      have tz1 := tf_98_1 hI
      refine h_cge (tg := 244) (pc' := 165) rfl rfl rfl hy2 hz1 (fun c2 => ?_) (fun c2 => ?_)
      · exact h_vret rfl rfl (kk _ I0 F0_ (g_DM_e ex0 (gd_v4_o rfl (by omega) rfl)))
      · refine h_iconst (pc' := 166) (x := (Int32.ofInt 0)) rfl rfl rfl ?_
        refine h_istore_n (pc' := 167) (M := [(3, .int (Int32.ofInt 0)), (0, .ref 98), (1, .int (Int32.ofInt 176)), (2, .int y2)]) rfl rfl rfl rfl ?_
        exact h_wk [(0, .ref 98), (1, .int (Int32.ofInt 176)), (2, .int y2), (3, .int (Int32.ofInt 0))] ⟨rfl, rfl, rfl, rfl, trivial⟩ (ih.2.2.2.2 _ I0 F0_ y2 _ hy2 (by omega) (Int32.ofInt 0) _ ci_0 (by omega) (by omega) (g_DM_e ex0 (gd_v4_y rfl (by omega) (by omega) (by omega) rfl)) (by omega))
    · intro s0 I0 F0_ y2 b2 hy2 ry2 y3 b3 hy3 ry3 ex0 ex1 hm; have gh0 := F0_ 98 1 rfl; have gh1 := F0_ 99 194 rfl; have gh2 := tf_98_1 hI; have gh3 := ty_99_3 hI 194 (by omega)
      refine h_iload_n (pc' := 168) rfl rfl rfl ?_
      refine h_bipush (pc' := 170) (x := (Int32.ofInt 36)) rfl rfl cb_36 ?_
      refine h_cge (tg := 238) (pc' := 173) rfl rfl rfl hy3 ci_36 (fun c1 => ?_) (fun c1 => ?_)
      · refine h_iinc (pc' := 241) (M := fun z2 => [(2, .int z2), (0, .ref 98), (1, .int (Int32.ofInt 176)), (3, .int y3)]) rfl rfl rfl rfl hy2 ci_1 rfl (by omega) (by omega) (fun _ => rfl) (fun z2 hz2 => ?_)
        refine h_goto (pc' := 157) rfl rfl ?_
        exact h_wk [(0, .ref 98), (1, .int (Int32.ofInt 176)), (2, .int z2)] ⟨rfl, rfl, rfl, trivial⟩ (ih.2.2.2.1 _ I0 F0_ z2 _ hz2 (by omega) (g_DM_e ex1 (gd_v5_o rfl (by omega) rfl)) (by omega))
      · refine h_aload_n (pc' := 174) rfl rfl rfl ?_
        refine h_getR (pc' := 177) rfl rfl rfl rfl rfl ?_
        refine h_bipush (pc' := 179) (x := (Int32.ofInt 6)) rfl rfl cb_6 ?_
        refine h_iload_n (pc' := 180) rfl rfl rfl ?_
        refine h_bipush (pc' := 182) (x := (Int32.ofInt 6)) rfl rfl cb_6 ?_
        refine h_idiv (pc' := 183) rfl rfl hy3 ci_6 (by omega) (by omega) (fun z3 hz3 => ?_)
        refine h_imul (pc' := 184) rfl rfl ci_6 hz3 rfl (by omega) (by omega) (fun z4 hz4 => ?_)
        refine h_iload_n (pc' := 185) rfl rfl rfl ?_
        refine h_iadd (pc' := 186) rfl rfl hz4 hy2 rfl (by omega) (by omega) (fun z5 hz5 => ?_)
        refine h_iald (pc' := 187) (v := s0 105 ((6 * (b3 / 6)) + b2)) rfl rfl rfl hz5 (by omega) (by omega) rfl (fun z6 hz6 => ?_)
        have tz6 := ty_105 I0 ((6 * (b3 / 6)) + b2)
        refine h_aload_n (pc' := 188) rfl rfl rfl ?_
        refine h_getR (pc' := 191) rfl rfl rfl rfl rfl ?_
        refine h_bipush (pc' := 193) (x := (Int32.ofInt 6)) rfl rfl cb_6 ?_
        refine h_iload_n (pc' := 194) rfl rfl rfl ?_
        refine h_imul (pc' := 195) rfl rfl ci_6 hy2 rfl (by omega) (by omega) (fun z7 hz7 => ?_)
        refine h_iload_n (pc' := 196) rfl rfl rfl ?_
        refine h_bipush (pc' := 198) (x := (Int32.ofInt 6)) rfl rfl cb_6 ?_
        refine h_irem (pc' := 199) rfl rfl hy3 ci_6 (by omega) (by omega) (fun z8 hz8 => ?_)
        refine h_iadd (pc' := 200) rfl rfl hz7 hz8 rfl (by omega) (by omega) (fun z9 hz9 => ?_)
        refine h_iald (pc' := 201) (v := s0 105 ((6 * b2) + (b3 % 6))) rfl rfl rfl hz9 (by omega) (by omega) rfl (fun z10 hz10 => ?_)
        have tz10 := ty_105 I0 ((6 * b2) + (b3 % 6))
        refine h_iadd (pc' := 202) rfl rfl hz6 hz10 rfl (by omega) (by omega) (fun z11 hz11 => ?_)
        refine h_istore (pc' := 204) (M := [(4, .int z11), (0, .ref 98), (1, .int (Int32.ofInt 176)), (2, .int y2), (3, .int y3)]) rfl rfl rfl rfl ?_
        refine h_aload_n (pc' := 205) rfl rfl rfl ?_
        refine h_getR (pc' := 208) rfl rfl rfl rfl rfl ?_
        refine h_iload_n (pc' := 209) rfl rfl rfl ?_
        refine h_iload (pc' := 211) rfl rfl rfl ?_
        refine h_aload_n (pc' := 212) rfl rfl rfl ?_
        refine h_getR (pc' := 215) rfl rfl rfl rfl rfl ?_
        refine h_iload_n (pc' := 216) rfl rfl rfl ?_
        refine h_iald (pc' := 217) (v := s0 105 b3) rfl rfl rfl hy3 (by omega) (by omega) rfl (fun z12 hz12 => ?_)
        have tz12 := ty_105 I0 b3
        refine h_cge (tg := 225) (pc' := 220) rfl rfl rfl hz11 hz12 (fun c13 => ?_) (fun c13 => ?_)
        · refine h_aload_n (pc' := 226) rfl rfl rfl ?_
          refine h_getR (pc' := 229) rfl rfl rfl rfl rfl ?_
          refine h_iload_n (pc' := 230) rfl rfl rfl ?_
          refine h_iald (pc' := 231) (v := s0 105 b3) rfl rfl rfl hy3 (by omega) (by omega) rfl (fun z14 hz14 => ?_)
          have tz14 := ty_105 I0 b3
          refine h_iast (pc' := 232) rfl rfl rfl rfl hy3 (by omega) (by omega) hz14 (h_fgt (E := fun s => s 98 13 = s0 98 13 ∧ s = h_up s0 105 b3 (s0 105 b3)) _ (in_105 I0 (by omega)) (F0_.up rfl) ⟨rfl, rfl⟩ (fun s15 Is15 Fs15 (es15 : s15 98 13 = s0 98 13 ∧ s15 = h_up s0 105 b3 (s0 105 b3)) => ?_))
          have us15 := es15.2
          refine h_iinc (pc' := 235) (M := fun z16 => [(3, .int z16), (4, .int z11), (0, .ref 98), (1, .int (Int32.ofInt 176)), (2, .int y2)]) rfl rfl rfl rfl hy3 ci_1 rfl (by omega) (by omega) (fun _ => rfl) (fun z16 hz16 => ?_)
          refine h_goto (pc' := 167) rfl rfl ?_
          exact h_wk [(0, .ref 98), (1, .int (Int32.ofInt 176)), (2, .int y2), (3, .int z16)] ⟨rfl, rfl, rfl, rfl, trivial⟩ (ih.2.2.2.2 _ Is15 Fs15 y2 _ hy2 (by omega) z16 _ hz16 (by omega) (by omega) (g_DM_e ex1 (gd_v5_s rfl (by omega) (by omega) rfl rfl rfl ((h_upf us15).trans (by first | exact g_mn_y rfl (by omega) rfl | exact g_mn_n rfl (by omega) rfl)))) (by omega))
        · refine h_iload (pc' := 222) rfl rfl rfl ?_
          refine h_goto (pc' := 231) rfl rfl ?_
          refine h_iast (pc' := 232) rfl rfl rfl rfl hy3 (by omega) (by omega) hz11 (h_fgt (E := fun s => s 98 13 = s0 98 13 ∧ s = h_up s0 105 b3 ((s0 105 ((6 * (b3 / 6)) + b2)) + (s0 105 ((6 * b2) + (b3 % 6))))) _ (in_105 I0 (by omega)) (F0_.up rfl) ⟨rfl, rfl⟩ (fun s17 Is17 Fs17 (es17 : s17 98 13 = s0 98 13 ∧ s17 = h_up s0 105 b3 ((s0 105 ((6 * (b3 / 6)) + b2)) + (s0 105 ((6 * b2) + (b3 % 6))))) => ?_))
          have us17 := es17.2
          refine h_iinc (pc' := 235) (M := fun z18 => [(3, .int z18), (4, .int z11), (0, .ref 98), (1, .int (Int32.ofInt 176)), (2, .int y2)]) rfl rfl rfl rfl hy3 ci_1 rfl (by omega) (by omega) (fun _ => rfl) (fun z18 hz18 => ?_)
          refine h_goto (pc' := 167) rfl rfl ?_
          exact h_wk [(0, .ref 98), (1, .int (Int32.ofInt 176)), (2, .int y2), (3, .int z18)] ⟨rfl, rfl, rfl, rfl, trivial⟩ (ih.2.2.2.2 _ Is17 Fs17 y2 _ hy2 (by omega) z18 _ hz18 (by omega) (by omega) (g_DM_e ex1 (gd_v5_s rfl (by omega) (by omega) rfl rfl rfl ((h_upf us17).trans (by first | exact g_mn_y rfl (by omega) rfl | exact g_mn_n rfl (by omega) rfl)))) (by omega))
set_option maxHeartbeats 100000000 in
set_option maxHeartbeats 100000000 in
theorem n_lays_176 {ns : Nat} (σ : h_S) (hI : h_I σ) {Q : Option Value → h_S → Prop} (kk : ∀ (τ : h_S), h_I τ → h_F (k_in kf_n_lays_176) τ σ → (g_DM (σ 98 1) (σ 99 194) (fun j => σ 99 (176 + j)) (σ 100) (τ 105)) → Q none τ) : h_T g_P (g_Y ns) 162 0 [(0, .ref 98), (1, .int (Int32.ofInt 176))] [] σ Q := by
  have F00 : h_F (k_in kf_n_lays_176) σ σ := h_F.rf
  refine h_iconst (pc' := 1) (x := (Int32.ofInt 0)) rfl rfl rfl ?_
  refine h_istore_n (pc' := 2) (M := [(2, .int (Int32.ofInt 0)), (0, .ref 98), (1, .int (Int32.ofInt 176))]) rfl rfl rfl rfl ?_
  exact h_wk [(0, .ref 98), (1, .int (Int32.ofInt 176)), (2, .int (Int32.ofInt 0))] ⟨rfl, rfl, rfl, trivial⟩ ((n_lays_176_l ns σ hI  kk 1000000000000).1 _ hI F00 (Int32.ofInt 0) _ ci_0 (by omega) g_im_0 (by omega))
def kf_n_admit_23 : List Nat := [83970, 87039]
set_option maxHeartbeats 100000000 in
set_option maxHeartbeats 100000000 in
theorem n_admit_23 {ns : Nat} (σ : h_S) (hI : h_I σ) (x0 : Int32) (a0 : Int) (hx0 : x0.toInt = a0) (ra0 : 0 ≤ a0 ∧ a0 ≤ 5) (x1 : Int32) (a1 : Int) (hx1 : x1.toInt = a1) (ra1 : 0 ≤ a1 ∧ a1 ≤ 2) (pr0 : g_op (σ 23 8) (σ 80) (σ 81) (σ 32) (σ 23 9) 0 (σ 83)) (pr1 : a0 < σ 23 8) (pr2 : a1 < σ 23 9) (pr3 : σ 84 a1 = -4 ∨ (0 ≤ σ 84 a1 ∧ σ 84 a1 < σ 23 8)) {Q : Option Value → h_S → Prop} (kk : ∀ (r : Int32) (b : Int) (hb : r.toInt = b) (τ : h_S), h_I τ → h_F (k_in kf_n_admit_23) τ σ → (0 ≤ b ∧ b ≤ 1) → ((b = 1 ∧ g_yX (σ 23 8) (σ 80) (σ 81) a0 (σ 84 a1) (σ 32 a1) = true ∧ τ 84 = g_set (σ 84) a1 a0 ∧ Int32.ofInt (τ 82 2) = g_or (Int32.ofInt (σ 82 2)) a0) ∨ (b = 0 ∧ g_yX (σ 23 8) (σ 80) (σ 81) a0 (σ 84 a1) (σ 32 a1) = false ∧ τ 84 = σ 84 ∧ τ 82 2 = σ 82 2)) → Q (some (.int r)) τ) : h_T g_P (g_Y ns) 20 0 [(0, .ref 82), (1, .int x0), (2, .int x1)] [] σ Q := by
  have F00 : h_F (k_in kf_n_admit_23) σ σ := h_F.rf
  have ge0 := tf_23_8 hI
  have ge1 := tf_23_9 hI
  refine h_aload_n (pc' := 1) rfl rfl rfl ?_
  refine h_getR (pc' := 4) rfl rfl rfl rfl rfl ?_
  refine h_iload_n (pc' := 5) rfl rfl rfl ?_
  refine h_iald (pc' := 6) (v := σ 84 a1) rfl rfl rfl hx1 (by omega) (by omega) rfl (fun z1 hz1 => ?_)
  have tz1 := ty_84 hI a1
  refine h_bipush (pc' := 8) (x := (Int32.ofInt (-4))) rfl rfl cb_m4 ?_
  refine h_cne (tg := 16) (pc' := 11) rfl rfl rfl hz1 ci_m4 (fun c2 => ?_) (fun c2 => ?_)
  · refine h_aload_n (pc' := 17) rfl rfl rfl ?_
    refine h_getR (pc' := 20) rfl rfl rfl rfl rfl ?_
    refine h_iload_n (pc' := 21) rfl rfl rfl ?_
    refine h_iald (pc' := 22) (v := σ 84 a1) rfl rfl rfl hx1 (by omega) (by omega) rfl (fun z3 hz3 => ?_)
    have tz3 := ty_84 hI a1
    refine h_istore_n (pc' := 23) (M := [(3, .int z3), (0, .ref 82), (1, .int x0), (2, .int x1)]) rfl rfl rfl rfl ?_
    refine h_aload_n (pc' := 24) rfl rfl rfl ?_
    refine h_getR (pc' := 27) rfl rfl rfl rfl rfl ?_
    refine h_iload_n (pc' := 28) rfl rfl rfl ?_
    refine h_bipush (pc' := 30) (x := (Int32.ofInt 7)) rfl rfl cb_7 ?_
    refine h_imul (pc' := 31) rfl rfl hx1 ci_7 rfl (by omega) (by omega) (fun z4 hz4 => ?_)
    refine h_iload_n (pc' := 32) rfl rfl rfl ?_
    refine h_iadd (pc' := 33) rfl rfl hz4 hz3 rfl (by omega) (by omega) (fun z5 hz5 => ?_)
    refine h_iald (pc' := 34) (v := σ 83 ((a1 * 7) + (σ 84 a1))) rfl rfl rfl hz5 (by omega) (by omega) rfl (fun z6 hz6 => ?_)
    have tz6 := ty_83 hI ((a1 * 7) + (σ 84 a1))
    refine h_iload_n (pc' := 35) rfl rfl rfl ?_
    refine h_calls (pc' := 38) (M := [(0, .int z6), (1, .int x0)]) rfl rfl rfl rfl rfl rfl ?_
    refine h_iload_n (pc' := 1) rfl rfl rfl ?_
    refine h_iload_n (pc' := 2) rfl rfl rfl ?_
    refine h_ishr (pc' := 3) rfl rfl (fun z7 hz7 => ?_)
    refine h_iconst (pc' := 4) (x := (Int32.ofInt 1)) rfl rfl rfl ?_
    refine h_iand (pc' := 5) rfl rfl (fun z8 hz8 uz8 vz8 => ?_)
    clear uz8
    rw [ci_1] at vz8
    have yz8 := vz8 (by omega)
    refine h_zeq (tg := 12) (pc' := 8) rfl rfl rfl rfl (fun c9 => ?_) (fun c9 => ?_)
    · refine h_iconst (pc' := 13) (x := (Int32.ofInt 0)) rfl rfl rfl ?_
      refine h_zret rfl rfl ci_0 (by omega) (h_Kv ?_)
      refine h_zne (tg := 43) (pc' := 41) rfl rfl rfl ci_0 (fun c10 => absurd c10 (by omega)) (fun c10 => ?_)
      refine h_iconst (pc' := 42) (x := (Int32.ofInt 0)) rfl rfl rfl ?_
      exact h_zret rfl rfl ci_0 (by omega) (kk _ _ ci_0 _ hI F00 (by omega) (by have gh := g_adm (p := a0) (g := a1) (l := σ 84 a1) pr0 (by omega) (by omega) (by omega) (by omega) (by omega) (by omega) (by omega) hz6; have gz := g_hb_of hz8 hz7 hx0; exact Or.inr ⟨rfl, g_go_n gh gz (by omega), rfl, rfl⟩))
    · refine h_iconst (pc' := 9) (x := (Int32.ofInt 1)) rfl rfl rfl ?_
      refine h_goto (pc' := 13) rfl rfl ?_
      refine h_zret rfl rfl ci_1 (by omega) (h_Kv ?_)
      refine h_zne (tg := 43) (pc' := 41) rfl rfl rfl ci_1 (fun c11 => ?_) (fun c11 => absurd c11 (by omega))
      refine h_aload_n (pc' := 44) rfl rfl rfl ?_
      refine h_getR (pc' := 47) rfl rfl rfl rfl rfl ?_
      refine h_iload_n (pc' := 48) rfl rfl rfl ?_
      refine h_iload_n (pc' := 49) rfl rfl rfl ?_
      refine h_iast (pc' := 50) rfl rfl rfl rfl hx1 (by omega) (by omega) hx0 (h_fgt (E := fun s => s 98 13 = σ 98 13 ∧ s = h_up σ 84 a1 a0) _ (in_84 hI (by omega)) (F00.up rfl) ⟨rfl, rfl⟩ (fun s12 Is12 Fs12 (es12 : s12 98 13 = σ 98 13 ∧ s12 = h_up σ 84 a1 a0) => ?_))
      have us12 := es12.2
      refine h_aload_n (pc' := 51) rfl rfl rfl ?_
      refine h_dup (pc' := 52) rfl rfl rfl ?_
      refine h_getI (pc' := 55) (v := s12 82 2) rfl rfl rfl rfl rfl rfl (fun z13 hz13 => ?_)
      have tz13 := tf_82_2 Is12
      refine h_iconst (pc' := 56) (x := (Int32.ofInt 1)) rfl rfl rfl ?_
      refine h_iload_n (pc' := 57) rfl rfl rfl ?_
      refine h_shl1 (pc' := 58) rfl rfl ci_1 hx0 (by omega) (by omega) (fun z14 hz14 vz14 => ?_)
      refine h_ior (pc' := 59) rfl rfl (fun z15 hz15 => ?_)
      refine h_put (pc' := 62) rfl rfl rfl rfl rfl rfl rfl rfl (h_fgt (E := fun s => s 98 13 = σ 98 13 ∧ s = h_up s12 82 2 z15.toInt) _ (if_82_2 Is12 (h_rgv rfl)) (Fs12.up rfl) ⟨es12.1, rfl⟩ (fun s16 Is16 Fs16 (es16 : s16 98 13 = σ 98 13 ∧ s16 = h_up s12 82 2 z15.toInt) => ?_))
      clear es12
      have us16 := es16.2
      refine h_iconst (pc' := 63) (x := (Int32.ofInt 1)) rfl rfl rfl ?_
      exact h_zret rfl rfl ci_1 (by omega) (kk _ _ ci_1 _ Is16 Fs16 (by omega) (by have gh := g_adm (p := a0) (g := a1) (l := σ 84 a1) pr0 (by omega) (by omega) (by omega) (by omega) (by omega) (by omega) (by omega) hz6; have gz := g_hb_of hz8 hz7 hx0; exact Or.inl ⟨rfl, g_go_y gh gz (by omega), ((h_upg us16 rfl).trans (h_upf us12)), (congrArg Int32.ofInt (h_upv us16)).trans (g_came hz15 hz14 hx0 (hz13.trans (h_upo us12 rfl 2)))⟩))
  · refine h_bipush (pc' := 13) (x := (Int32.ofInt 6)) rfl rfl cb_6 ?_
    refine h_goto (pc' := 22) rfl rfl ?_
    refine h_istore_n (pc' := 23) (M := [(3, .int (Int32.ofInt 6)), (0, .ref 82), (1, .int x0), (2, .int x1)]) rfl rfl rfl rfl ?_
    refine h_aload_n (pc' := 24) rfl rfl rfl ?_
    refine h_getR (pc' := 27) rfl rfl rfl rfl rfl ?_
    refine h_iload_n (pc' := 28) rfl rfl rfl ?_
    refine h_bipush (pc' := 30) (x := (Int32.ofInt 7)) rfl rfl cb_7 ?_
    refine h_imul (pc' := 31) rfl rfl hx1 ci_7 rfl (by omega) (by omega) (fun z17 hz17 => ?_)
    refine h_iload_n (pc' := 32) rfl rfl rfl ?_
    refine h_iadd (pc' := 33) rfl rfl hz17 ci_6 rfl (by omega) (by omega) (fun z18 hz18 => ?_)
    refine h_iald (pc' := 34) (v := σ 83 ((a1 * 7) + 6)) rfl rfl rfl hz18 (by omega) (by omega) rfl (fun z19 hz19 => ?_)
    have tz19 := ty_83 hI ((a1 * 7) + 6)
    refine h_iload_n (pc' := 35) rfl rfl rfl ?_
    refine h_calls (pc' := 38) (M := [(0, .int z19), (1, .int x0)]) rfl rfl rfl rfl rfl rfl ?_
    refine h_iload_n (pc' := 1) rfl rfl rfl ?_
    refine h_iload_n (pc' := 2) rfl rfl rfl ?_
    refine h_ishr (pc' := 3) rfl rfl (fun z20 hz20 => ?_)
    refine h_iconst (pc' := 4) (x := (Int32.ofInt 1)) rfl rfl rfl ?_
    refine h_iand (pc' := 5) rfl rfl (fun z21 hz21 uz21 vz21 => ?_)
    clear uz21
    rw [ci_1] at vz21
    have yz21 := vz21 (by omega)
    refine h_zeq (tg := 12) (pc' := 8) rfl rfl rfl rfl (fun c22 => ?_) (fun c22 => ?_)
    · refine h_iconst (pc' := 13) (x := (Int32.ofInt 0)) rfl rfl rfl ?_
      refine h_zret rfl rfl ci_0 (by omega) (h_Kv ?_)
      refine h_zne (tg := 43) (pc' := 41) rfl rfl rfl ci_0 (fun c23 => absurd c23 (by omega)) (fun c23 => ?_)
      refine h_iconst (pc' := 42) (x := (Int32.ofInt 0)) rfl rfl rfl ?_
      exact h_zret rfl rfl ci_0 (by omega) (kk _ _ ci_0 _ hI F00 (by omega) (by have gh := g_adm (p := a0) (g := a1) (l := σ 84 a1) pr0 (by omega) (by omega) (by omega) (by omega) (by omega) (by omega) (by omega) hz19; have gz := g_hb_of hz21 hz20 hx0; exact Or.inr ⟨rfl, g_go_n gh gz (by omega), rfl, rfl⟩))
    · refine h_iconst (pc' := 9) (x := (Int32.ofInt 1)) rfl rfl rfl ?_
      refine h_goto (pc' := 13) rfl rfl ?_
      refine h_zret rfl rfl ci_1 (by omega) (h_Kv ?_)
      refine h_zne (tg := 43) (pc' := 41) rfl rfl rfl ci_1 (fun c24 => ?_) (fun c24 => absurd c24 (by omega))
      refine h_aload_n (pc' := 44) rfl rfl rfl ?_
      refine h_getR (pc' := 47) rfl rfl rfl rfl rfl ?_
      refine h_iload_n (pc' := 48) rfl rfl rfl ?_
      refine h_iload_n (pc' := 49) rfl rfl rfl ?_
      refine h_iast (pc' := 50) rfl rfl rfl rfl hx1 (by omega) (by omega) hx0 (h_fgt (E := fun s => s 98 13 = σ 98 13 ∧ s = h_up σ 84 a1 a0) _ (in_84 hI (by omega)) (F00.up rfl) ⟨rfl, rfl⟩ (fun s25 Is25 Fs25 (es25 : s25 98 13 = σ 98 13 ∧ s25 = h_up σ 84 a1 a0) => ?_))
      have us25 := es25.2
      refine h_aload_n (pc' := 51) rfl rfl rfl ?_
      refine h_dup (pc' := 52) rfl rfl rfl ?_
      refine h_getI (pc' := 55) (v := s25 82 2) rfl rfl rfl rfl rfl rfl (fun z26 hz26 => ?_)
      have tz26 := tf_82_2 Is25
      refine h_iconst (pc' := 56) (x := (Int32.ofInt 1)) rfl rfl rfl ?_
      refine h_iload_n (pc' := 57) rfl rfl rfl ?_
      refine h_shl1 (pc' := 58) rfl rfl ci_1 hx0 (by omega) (by omega) (fun z27 hz27 vz27 => ?_)
      refine h_ior (pc' := 59) rfl rfl (fun z28 hz28 => ?_)
      refine h_put (pc' := 62) rfl rfl rfl rfl rfl rfl rfl rfl (h_fgt (E := fun s => s 98 13 = σ 98 13 ∧ s = h_up s25 82 2 z28.toInt) _ (if_82_2 Is25 (h_rgv rfl)) (Fs25.up rfl) ⟨es25.1, rfl⟩ (fun s29 Is29 Fs29 (es29 : s29 98 13 = σ 98 13 ∧ s29 = h_up s25 82 2 z28.toInt) => ?_))
      clear es25
      have us29 := es29.2
      refine h_iconst (pc' := 63) (x := (Int32.ofInt 1)) rfl rfl rfl ?_
      exact h_zret rfl rfl ci_1 (by omega) (kk _ _ ci_1 _ Is29 Fs29 (by omega) (by have gh := g_adm (p := a0) (g := a1) (l := σ 84 a1) pr0 (by omega) (by omega) (by omega) (by omega) (by omega) (by omega) (by omega) hz19; have gz := g_hb_of hz21 hz20 hx0; exact Or.inl ⟨rfl, g_go_y gh gz (by omega), ((h_upg us29 rfl).trans (h_upf us25)), (congrArg Int32.ofInt (h_upv us29)).trans (g_came hz28 hz27 hx0 (hz26.trans (h_upo us25 rfl 2)))⟩))
def kf_n_run_23 : List Nat := [83970, 87039]
set_option maxHeartbeats 100000000 in
set_option maxHeartbeats 100000000 in
theorem n_run_23_l (ns : Nat) (σ : h_S) (hI : h_I σ) (x1 : Int32) (a1 : Int) (hx1 : x1.toInt = a1) (pr0 : g_op (σ 23 8) (σ 80) (σ 81) (σ 32) (σ 23 9) 0 (σ 83)) (pr1 : g_lk' (σ 23 8) (σ 23 9) (σ 33)) (pr2 : ∀ i, 0 ≤ i → i < σ 23 10 → 0 ≤ σ 35 i ∧ σ 35 i / 10 < σ 23 8 ∧ σ 35 i % 10 < σ 23 9) {Q : Option Value → h_S → Prop} (kk : ∀ (r : Int32) (b : Int) (hb : r.toInt = b) (τ : h_S), h_I τ → h_F (k_in kf_n_run_23) τ σ → (∃ L0, g_cq (σ 23 9) (σ 33) L0 ∧ (τ 84, Int32.ofInt (τ 82 2), r) = g_pf (fun p l g => g_yX (σ 23 8) (σ 80) (σ 81) p l (σ 32 g)) x1 (σ 35) (L0, 0, 0) (σ 23 10).toNat) → Q (some (.int r)) τ) : ∀ n : Nat, (∀ (s0 : h_S), h_I s0 → h_F (k_in kf_n_run_23) s0 σ → ∀ (y3 : Int32) (b3 : Int), y3.toInt = b3 → ∀ (y4 : Int32) (b4 : Int), y4.toInt = b4 → (0 ≤ b4 ∧ b4 ≤ 8) → (∃ L0, g_cq (σ 23 9) (σ 33) L0 ∧ (s0 84, Int32.ofInt (s0 82 2), y3) = g_pf (fun p l g => g_yX (σ 23 8) (σ 80) (σ 81) p l (σ 32 g)) x1 (σ 35) (L0, 0, 0) b4.toNat) → (g_lk' (σ 23 8) (σ 23 9) (s0 84)) → (b4 ≤ σ 23 10) → (8 + 1 - b4) * 1000000 + 1000000000 ≤ (n : Int) → h_T g_P (g_Y ns) 21 10 [(0, .ref 82), (1, .ref 23), (2, .int x1), (3, .int y3), (4, .int y4)] [] s0 Q) := by
  intro n
  induction n with
  | zero => exact by intro s0 I0 F0_ y3 b3 hy3 y4 b4 hy4 ry4 ex0 ex1 ex2 hm; have gh0 := F0_ 23 8 rfl; have gh1 := F0_ 23 9 rfl; have gh2 := F0_ 23 10 rfl; have gh3 := tf_23_8 hI; have gh4 := tf_23_9 hI; have gh5 := tf_23_10 hI; exfalso; omega
  | succ n ih =>
    intro s0 I0 F0_ y3 b3 hy3 y4 b4 hy4 ry4 ex0 ex1 ex2 hm; have gh0 := F0_ 23 8 rfl; have gh1 := F0_ 23 9 rfl; have gh2 := F0_ 23 10 rfl; have gh3 := tf_23_8 hI; have gh4 := tf_23_9 hI; have gh5 := tf_23_10 hI
    refine h_iload (pc' := 12) rfl rfl rfl ?_
    refine h_aload_n (pc' := 13) rfl rfl rfl ?_
    refine h_getI (pc' := 16) (v := σ 23 10) rfl rfl rfl rfl rfl (F0_ 23 10 rfl) (fun z1 hz1 => ?_)
    have tz1 := tf_23_10 hI
    refine h_cge (tg := 72) (pc' := 19) rfl rfl rfl hy4 hz1 (fun c2 => ?_) (fun c2 => ?_)
    · refine h_iload_n (pc' := 73) rfl rfl rfl ?_
      exact h_iret rfl rfl (kk _ _ hy3 _ I0 F0_ (by rw [show b4 = σ 23 10 by omega] at ex0; exact ex0))
    · refine h_aload_n (pc' := 20) rfl rfl rfl ?_
      refine h_getR (pc' := 23) rfl rfl rfl rfl rfl ?_
      refine h_iload (pc' := 25) rfl rfl rfl ?_
      refine h_iald (pc' := 26) (v := σ 35 b4) rfl rfl rfl hy4 (by omega) (by omega) (F0_ 35 _ rfl) (fun z3 hz3 => ?_)
      have tz3 := ty_35 hI b4
      refine h_bipush (pc' := 28) (x := (Int32.ofInt 10)) rfl rfl cb_10 ?_
      refine h_idiv (pc' := 29) rfl rfl hz3 ci_10 (by omega) (by omega) (fun z4 hz4 => ?_)
      refine h_istore (pc' := 31) (M := [(5, .int z4), (0, .ref 82), (1, .ref 23), (2, .int x1), (3, .int y3), (4, .int y4)]) rfl rfl rfl rfl ?_
      refine h_iload_n (pc' := 32) rfl rfl rfl ?_
      refine h_iload (pc' := 34) rfl rfl rfl ?_
      refine h_calls (pc' := 37) (M := [(0, .int x1), (1, .int z4)]) rfl rfl rfl rfl rfl rfl ?_
      refine h_iload_n (pc' := 1) rfl rfl rfl ?_
      refine h_iload_n (pc' := 2) rfl rfl rfl ?_
      refine h_ishr (pc' := 3) rfl rfl (fun z5 hz5 => ?_)
      refine h_iconst (pc' := 4) (x := (Int32.ofInt 1)) rfl rfl rfl ?_
      refine h_iand (pc' := 5) rfl rfl (fun z6 hz6 uz6 vz6 => ?_)
      clear uz6
      rw [ci_1] at vz6
      have yz6 := vz6 (by omega)
      refine h_zeq (tg := 12) (pc' := 8) rfl rfl rfl rfl (fun c7 => ?_) (fun c7 => ?_)
      · refine h_iconst (pc' := 13) (x := (Int32.ofInt 0)) rfl rfl rfl ?_
        refine h_zret rfl rfl ci_0 (by omega) (h_Kv ?_)
        refine h_zne (tg := 66) (pc' := 40) rfl rfl rfl ci_0 (fun c8 => absurd c8 (by omega)) (fun c8 => ?_)
        refine h_aload_n (pc' := 41) rfl rfl rfl ?_
        refine h_iload (pc' := 43) rfl rfl rfl ?_
        refine h_aload_n (pc' := 44) rfl rfl rfl ?_
        refine h_getR (pc' := 47) rfl rfl rfl rfl rfl ?_
        refine h_iload (pc' := 49) rfl rfl rfl ?_
        refine h_iald (pc' := 50) (v := σ 35 b4) rfl rfl rfl hy4 (by omega) (by omega) (F0_ 35 _ rfl) (fun z9 hz9 => ?_)
        have tz9 := ty_35 hI b4
        refine h_bipush (pc' := 52) (x := (Int32.ofInt 10)) rfl rfl cb_10 ?_
        refine h_irem (pc' := 53) rfl rfl hz9 ci_10 (by omega) (by omega) (fun z10 hz10 => ?_)
        refine h_call (sp := false) (pc' := 56) (M := [(0, .ref 82), (1, .int z4), (2, .int z10)]) rfl rfl rfl rfl rfl rfl rfl rfl ?_
        refine n_admit_23 _ I0 z4 _ hz4 (by omega) z10 _ hz10 (by omega) (g_op_t pr0 (F0_ 23 8 rfl).symm (funext (fun j => (F0_ 80 j rfl).symm)) (funext (fun j => (F0_ 81 j rfl).symm)) (funext (fun j => (F0_ 32 j rfl).symm)) (F0_ 23 9 rfl).symm (funext (fun j => (F0_ 83 j rfl).symm))) (by have gq := pr2 b4 (by omega) (by omega); omega) (by have gq := pr2 b4 (by omega) (by omega); omega) (by have gq := pr2 b4 (by omega) (by omega); have gl := ex1 (((σ 35 b4) % 10)) (by omega) (by omega); omega) (fun r11 br11 hr11 s12 Is12 Gs12 tr11 ps12_0 => h_Kv ?_)
        have Fs12 := (Gs12.mono (B := kf_n_run_23) rfl).tr F0_
        have es12_0 : s12 98 13 = s0 98 13 := (Gs12 98 13 rfl).trans rfl
        refine h_zeq (tg := 66) (pc' := 59) rfl rfl rfl hr11 (fun c13 => ?_) (fun c13 => ?_)
        · refine h_iinc (pc' := 69) (M := fun z14 => [(4, .int z14), (5, .int z4), (0, .ref 82), (1, .ref 23), (2, .int x1), (3, .int y3)]) rfl rfl rfl rfl hy4 ci_1 rfl (by omega) (by omega) (fun _ => rfl) (fun z14 hz14 => ?_)
          refine h_goto (pc' := 10) rfl rfl ?_
          exact h_wk [(0, .ref 82), (1, .ref 23), (2, .int x1), (3, .int y3), (4, .int z14)] ⟨rfl, rfl, rfl, rfl, rfl, trivial⟩ (ih _ Is12 Fs12 y3 _ hy3 z14 _ hz14 (by omega) (by have gz := g_hb_of hz6 hz5 hz4; have gq := pr2 b4 (by omega) (by omega); have q0 := ps12_0; rw [show s0 23 8 = σ 23 8 from F0_ 23 8 rfl, show s0 80 = σ 80 from funext (fun j => F0_ 80 j rfl), show s0 81 = σ 81 from funext (fun j => F0_ 81 j rfl), show s0 32 = σ 32 from funext (fun j => F0_ 32 j rfl)] at q0; obtain ⟨L0, z1, z2⟩ := ex0; refine ⟨L0, z1, ?_⟩; rw [g_pf_s (by omega)]; rcases q0 with q | q; (first | exact g_ps_y (p := σ 35 b4 / 10) (g := σ 35 b4 % 10) z2 rfl rfl (by omega) q.2.1 q.2.2.1 q.2.2.2 rfl | (exfalso; omega)); (first | exact g_ps_n (p := σ 35 b4 / 10) (g := σ 35 b4 % 10) z2 rfl rfl (Or.inr q.2.1) q.2.2.1 (congrArg Int32.ofInt q.2.2.2) rfl | (exfalso; omega))) (by have gq := pr2 b4 (by omega) (by omega); exact g_lk'_s ex1 (b := True) (c := True) (p := σ 35 b4 / 10) (g := σ 35 b4 % 10) (by omega) (by rcases ps12_0 with q | q; exact Or.inl ⟨trivial, q.2.2.1⟩; exact Or.inr ⟨trivial, q.2.2.1⟩)) (by omega) (by omega))
        · refine h_iload_n (pc' := 60) rfl rfl rfl ?_
          refine h_iconst (pc' := 61) (x := (Int32.ofInt 1)) rfl rfl rfl ?_
          refine h_iload (pc' := 63) rfl rfl rfl ?_
          refine h_ishl (pc' := 64) rfl rfl (fun z15 hz15 => ?_)
          refine h_ior (pc' := 65) rfl rfl (fun z16 hz16 => ?_)
          refine h_istore_n (pc' := 66) (M := [(3, .int z16), (5, .int z4), (0, .ref 82), (1, .ref 23), (2, .int x1), (4, .int y4)]) rfl rfl rfl rfl ?_
          refine h_iinc (pc' := 69) (M := fun z17 => [(4, .int z17), (3, .int z16), (5, .int z4), (0, .ref 82), (1, .ref 23), (2, .int x1)]) rfl rfl rfl rfl hy4 ci_1 rfl (by omega) (by omega) (fun _ => rfl) (fun z17 hz17 => ?_)
          refine h_goto (pc' := 10) rfl rfl ?_
          exact h_wk [(0, .ref 82), (1, .ref 23), (2, .int x1), (3, .int z16), (4, .int z17)] ⟨rfl, rfl, rfl, rfl, rfl, trivial⟩ (ih _ Is12 Fs12 z16 _ rfl z17 _ hz17 (by omega) (by have gz := g_hb_of hz6 hz5 hz4; have gq := pr2 b4 (by omega) (by omega); have q0 := ps12_0; rw [show s0 23 8 = σ 23 8 from F0_ 23 8 rfl, show s0 80 = σ 80 from funext (fun j => F0_ 80 j rfl), show s0 81 = σ 81 from funext (fun j => F0_ 81 j rfl), show s0 32 = σ 32 from funext (fun j => F0_ 32 j rfl)] at q0; obtain ⟨L0, z1, z2⟩ := ex0; refine ⟨L0, z1, ?_⟩; rw [g_pf_s (by omega)]; rcases q0 with q | q; (first | exact g_ps_y (p := σ 35 b4 / 10) (g := σ 35 b4 % 10) z2 rfl rfl (by omega) q.2.1 q.2.2.1 q.2.2.2 (g_or_of hz16 hz15 hy4) | (exfalso; omega)); (first | exact g_ps_n (p := σ 35 b4 / 10) (g := σ 35 b4 % 10) z2 rfl rfl (Or.inr q.2.1) q.2.2.1 (congrArg Int32.ofInt q.2.2.2) rfl | (exfalso; omega))) (by have gq := pr2 b4 (by omega) (by omega); exact g_lk'_s ex1 (b := True) (c := True) (p := σ 35 b4 / 10) (g := σ 35 b4 % 10) (by omega) (by rcases ps12_0 with q | q; exact Or.inl ⟨trivial, q.2.2.1⟩; exact Or.inr ⟨trivial, q.2.2.1⟩)) (by omega) (by omega))
      · refine h_iconst (pc' := 9) (x := (Int32.ofInt 1)) rfl rfl rfl ?_
        refine h_goto (pc' := 13) rfl rfl ?_
        refine h_zret rfl rfl ci_1 (by omega) (h_Kv ?_)
        refine h_zne (tg := 66) (pc' := 40) rfl rfl rfl ci_1 (fun c18 => ?_) (fun c18 => absurd c18 (by omega))
        refine h_iinc (pc' := 69) (M := fun z19 => [(4, .int z19), (5, .int z4), (0, .ref 82), (1, .ref 23), (2, .int x1), (3, .int y3)]) rfl rfl rfl rfl hy4 ci_1 rfl (by omega) (by omega) (fun _ => rfl) (fun z19 hz19 => ?_)
        refine h_goto (pc' := 10) rfl rfl ?_
        exact h_wk [(0, .ref 82), (1, .ref 23), (2, .int x1), (3, .int y3), (4, .int z19)] ⟨rfl, rfl, rfl, rfl, rfl, trivial⟩ (ih _ I0 F0_ y3 _ hy3 z19 _ hz19 (by omega) (by have gz := g_hb_of hz6 hz5 hz4; obtain ⟨L0, z1, z2⟩ := ex0; refine ⟨L0, z1, ?_⟩; rw [g_pf_s (by omega)]; exact g_ps_n (p := σ 35 b4 / 10) (g := σ 35 b4 % 10) z2 rfl rfl (Or.inl (by omega)) rfl rfl rfl) ex1 (by omega) (by omega))
set_option maxHeartbeats 100000000 in
set_option maxHeartbeats 100000000 in
theorem n_run_23 {ns : Nat} (σ : h_S) (hI : h_I σ) (x1 : Int32) (a1 : Int) (hx1 : x1.toInt = a1) (pr0 : g_op (σ 23 8) (σ 80) (σ 81) (σ 32) (σ 23 9) 0 (σ 83)) (pr1 : g_lk' (σ 23 8) (σ 23 9) (σ 33)) (pr2 : ∀ i, 0 ≤ i → i < σ 23 10 → 0 ≤ σ 35 i ∧ σ 35 i / 10 < σ 23 8 ∧ σ 35 i % 10 < σ 23 9) {Q : Option Value → h_S → Prop} (kk : ∀ (r : Int32) (b : Int) (hb : r.toInt = b) (τ : h_S), h_I τ → h_F (k_in kf_n_run_23) τ σ → (∃ L0, g_cq (σ 23 9) (σ 33) L0 ∧ (τ 84, Int32.ofInt (τ 82 2), r) = g_pf (fun p l g => g_yX (σ 23 8) (σ 80) (σ 81) p l (σ 32 g)) x1 (σ 35) (L0, 0, 0) (σ 23 10).toNat) → Q (some (.int r)) τ) : h_T g_P (g_Y ns) 21 0 [(0, .ref 82), (1, .ref 23), (2, .int x1)] [] σ Q := by
  have F00 : h_F (k_in kf_n_run_23) σ σ := h_F.rf
  have ge0 := tf_23_10 hI
  refine h_aload_n (pc' := 1) rfl rfl rfl ?_
  refine h_aload_n (pc' := 2) rfl rfl rfl ?_
  refine h_call (sp := false) (pc' := 5) (M := [(0, .ref 82), (1, .ref 23)]) rfl rfl rfl rfl rfl rfl rfl rfl ?_
  refine n_restart_23 _ hI  (fun s2 Is2 Gs2 ps2_0 ps2_1 => h_Kn ?_)
  have Fs2 := (Gs2.mono (B := kf_n_run_23) rfl).tr F00
  have es2_0 : s2 98 13 = σ 98 13 := (Gs2 98 13 rfl).trans rfl
  refine h_iconst (pc' := 6) (x := (Int32.ofInt 0)) rfl rfl rfl ?_
  refine h_istore_n (pc' := 7) (M := [(3, .int (Int32.ofInt 0)), (0, .ref 82), (1, .ref 23), (2, .int x1)]) rfl rfl rfl rfl ?_
  refine h_iconst (pc' := 8) (x := (Int32.ofInt 0)) rfl rfl rfl ?_
  refine h_istore (pc' := 10) (M := [(4, .int (Int32.ofInt 0)), (3, .int (Int32.ofInt 0)), (0, .ref 82), (1, .ref 23), (2, .int x1)]) rfl rfl rfl rfl ?_
  exact h_wk [(0, .ref 82), (1, .ref 23), (2, .int x1), (3, .int (Int32.ofInt 0)), (4, .int (Int32.ofInt 0))] ⟨rfl, rfl, rfl, rfl, rfl, trivial⟩ ((n_run_23_l ns σ hI x1 a1 hx1 pr0 pr1 pr2 kk 1000000000000) _ Is2 Fs2 (Int32.ofInt 0) _ ci_0 (Int32.ofInt 0) _ ci_0 (by omega) ⟨s2 84, ps2_1, by rw [ps2_0]; rfl⟩ (fun g a b => by rw [ps2_1 g a b]; exact pr1 g a b) (by omega) (by omega))
def kf_n_plan176 : List Nat := [100374, 100375, 101891, 108543]
set_option maxHeartbeats 100000000 in
set_option maxHeartbeats 100000000 in
theorem n_plan176_l (ns : Nat) (σ : h_S) (hI : h_I σ) (x1 : Int32) (a1 : Int) (hx1 : x1.toInt = a1) (pr0 : ∀ i, 0 ≤ i → i < σ 99 43 → 0 ≤ σ 99 (35 + i) ∧ σ 99 (35 + i) / 10 < 6 ∧ σ 99 (35 + i) % 10 < 3) {Q : Option Value → h_S → Prop} (kk : ∀ (τ : h_S), h_I τ → h_F (k_in kf_n_plan176) τ σ → (g_DM (σ 98 1) (σ 99 194) (fun j => σ 99 (176 + j)) (σ 100) (τ 105)) → (g_pmI (fun p l g => g_yM (τ 105) (fun i => σ 99 (19 + 2 * i)) (fun i => σ 99 (19 + 2 * i + 1)) (σ 99 25) p l (σ 99 (202 + g))) x1 (fun i => σ 99 (35 + i)) (fun g => g_orn (σ 99 (205 + g))) (σ 99 43) (τ 99) (τ 98 22) (τ 98 23)) → Q none τ) : ∀ n : Nat, (∀ (s0 : h_S), h_I s0 → h_F (k_in kf_n_plan176) s0 σ → ∀ (y3 : Int32) (b3 : Int), y3.toInt = b3 → (0 ≤ b3 ∧ b3 ≤ 8) → (g_DM (σ 98 1) (σ 99 194) (fun j => σ 99 (176 + j)) (σ 100) (s0 105)) → (∀ g, 0 ≤ g → g ≤ 2 → s0 99 (158 + g) = σ 99 (202 + g)) → (g_pmI (fun p l g => g_yM (s0 105) (fun i => σ 99 (19 + 2 * i)) (fun i => σ 99 (19 + 2 * i + 1)) (σ 99 25) p l (σ 99 (202 + g))) x1 (fun i => σ 99 (35 + i)) (fun g => g_orn (σ 99 (205 + g))) b3 (s0 99) (s0 98 22) (s0 98 23)) → (b3 ≤ σ 99 43) → (8 + 1 - b3) * 1000000 + 1000000000 ≤ (n : Int) → h_T g_P (g_Y ns) 191 25 [(0, .ref 98), (1, .int (Int32.ofInt 176)), (2, .int x1), (3, .int y3)] [] s0 Q) := by
  intro n
  induction n with
  | zero => exact by intro s0 I0 F0_ y3 b3 hy3 ry3 ex0 ex1 ex2 ex3 hm; have gh0 := ty_99_10 hI 43 (by omega); have gh1 := ty_99_5 hI 25 (by omega); have gh2 := F0_.no (q := 99) (l := 0) (u := 131) (j := 43) rfl (by omega) (by omega); have gh3 := F0_.no (q := 99) (l := 0) (u := 131) (j := 35 + b3) rfl (by omega) (by omega); exfalso; omega
  | succ n ih =>
    intro s0 I0 F0_ y3 b3 hy3 ry3 ex0 ex1 ex2 ex3 hm; have gh0 := ty_99_10 hI 43 (by omega); have gh1 := ty_99_5 hI 25 (by omega); have gh2 := F0_.no (q := 99) (l := 0) (u := 131) (j := 43) rfl (by omega) (by omega); have gh3 := F0_.no (q := 99) (l := 0) (u := 131) (j := 35 + b3) rfl (by omega) (by omega)
    refine h_iload_n (pc' := 26) rfl rfl rfl ?_
    refine h_aload_n (pc' := 27) rfl rfl rfl ?_
    refine h_getR (pc' := 30) rfl rfl rfl rfl rfl ?_
    refine h_bipush (pc' := 32) (x := (Int32.ofInt 43)) rfl rfl cb_43 ?_
    refine h_iald (pc' := 33) (v := σ 99 43) rfl rfl rfl ci_43 (by omega) (by omega) (F0_ 99 _ (k_no (l := 43) (h := 43) rfl (by omega) (by omega))) (fun z1 hz1 => ?_)
    have tz1 := ty_99_10 hI 43 (by omega)
    refine h_cge (tg := 114) (pc' := 36) rfl rfl rfl hy3 hz1 (fun c2 => ?_) (fun c2 => ?_)
    · exact h_vret rfl rfl (kk _ I0 F0_ ex0 (by rw [show σ 99 43 = b3 by omega]; exact ex2))
    · refine h_aload_n (pc' := 37) rfl rfl rfl ?_
      refine h_getR (pc' := 40) rfl rfl rfl rfl rfl ?_
      refine h_bipush (pc' := 42) (x := (Int32.ofInt 35)) rfl rfl cb_35 ?_
      refine h_iload_n (pc' := 43) rfl rfl rfl ?_
      refine h_iadd (pc' := 44) rfl rfl ci_35 hy3 rfl (by omega) (by omega) (fun z3 hz3 => ?_)
      refine h_iald (pc' := 45) (v := σ 99 (35 + b3)) rfl rfl rfl hz3 (by omega) (by omega) (F0_ 99 _ (k_no (l := 35) (h := 42) rfl (by omega) (by omega))) (fun z4 hz4 => ?_)
      have tz4 := ty_99_9 hI (35 + b3) (by omega)
      refine h_bipush (pc' := 47) (x := (Int32.ofInt 10)) rfl rfl cb_10 ?_
      refine h_idiv (pc' := 48) rfl rfl hz4 ci_10 (by omega) (by omega) (fun z5 hz5 => ?_)
      refine h_istore (pc' := 50) (M := [(4, .int z5), (0, .ref 98), (1, .int (Int32.ofInt 176)), (2, .int x1), (3, .int y3)]) rfl rfl rfl rfl ?_
      refine h_iload_n (pc' := 51) rfl rfl rfl ?_
      refine h_iload (pc' := 53) rfl rfl rfl ?_
      refine h_ishr (pc' := 54) rfl rfl (fun z6 hz6 => ?_)
      refine h_iconst (pc' := 55) (x := (Int32.ofInt 1)) rfl rfl rfl ?_
      refine h_iand (pc' := 56) rfl rfl (fun z7 hz7 uz7 vz7 => ?_)
      clear uz7
      rw [ci_1] at vz7
      have yz7 := vz7 (by omega)
      refine h_zne (tg := 108) (pc' := 59) rfl rfl rfl rfl (fun c8 => ?_) (fun c8 => ?_)
      · refine h_iinc (pc' := 111) (M := fun z9 => [(3, .int z9), (4, .int z5), (0, .ref 98), (1, .int (Int32.ofInt 176)), (2, .int x1)]) rfl rfl rfl rfl hy3 ci_1 rfl (by omega) (by omega) (fun _ => rfl) (fun z9 hz9 => ?_)
        refine h_goto (pc' := 25) rfl rfl ?_
        exact h_wk [(0, .ref 98), (1, .int (Int32.ofInt 176)), (2, .int x1), (3, .int z9)] ⟨rfl, rfl, rfl, rfl, trivial⟩ (ih _ I0 F0_ z9 _ hz9 (by omega) ex0 ex1 (by have gq := pr0 b3 (by omega) (by omega); have gz := g_hb_of hz7 hz6 hz5; exact g_pmI_n (k := b3) (p := σ 99 (35 + b3) / 10) (g := σ 99 (35 + b3) % 10) ex2 rfl (by omega) rfl rfl (by omega) (by omega) (Or.inl (by omega)) rfl rfl rfl) (by omega) (by omega))
      · refine h_aload_n (pc' := 60) rfl rfl rfl ?_
        refine h_sipush (pc' := 63) (x := (Int32.ofInt 132)) rfl rfl cs_132 ?_
        refine h_iload (pc' := 65) rfl rfl rfl ?_
        refine h_aload_n (pc' := 66) rfl rfl rfl ?_
        refine h_getR (pc' := 69) rfl rfl rfl rfl rfl ?_
        refine h_bipush (pc' := 71) (x := (Int32.ofInt 35)) rfl rfl cb_35 ?_
        refine h_iload_n (pc' := 72) rfl rfl rfl ?_
        refine h_iadd (pc' := 73) rfl rfl ci_35 hy3 rfl (by omega) (by omega) (fun z10 hz10 => ?_)
        refine h_iald (pc' := 74) (v := σ 99 (35 + b3)) rfl rfl rfl hz10 (by omega) (by omega) (F0_ 99 _ (k_no (l := 35) (h := 42) rfl (by omega) (by omega))) (fun z11 hz11 => ?_)
        have tz11 := ty_99_9 hI (35 + b3) (by omega)
        refine h_bipush (pc' := 76) (x := (Int32.ofInt 10)) rfl rfl cb_10 ?_
        refine h_irem (pc' := 77) rfl rfl hz11 ci_10 (by omega) (by omega) (fun z12 hz12 => ?_)
        refine h_call (sp := false) (pc' := 80) (M := [(0, .ref 98), (1, .int (Int32.ofInt 132)), (2, .int z5), (3, .int z12)]) rfl rfl rfl rfl rfl rfl rfl rfl ?_
        refine n_goesOn132 _ I0  z5 _ hz5 (by omega) z12 _ hz12 (by omega) (fun r13 br13 hr13 s14 Is14 Gs14 tr13 ps14_0 => h_Kv ?_)
        have Fs14 := (Gs14.mono (B := kf_n_plan176) rfl).tr F0_
        have es14_0 : s14 98 13 = s0 98 13 := (Gs14 98 13 rfl).trans rfl
        refine h_zeq (tg := 108) (pc' := 83) rfl rfl rfl hr13 (fun c15 => ?_) (fun c15 => ?_)
        · refine h_iinc (pc' := 111) (M := fun z16 => [(3, .int z16), (4, .int z5), (0, .ref 98), (1, .int (Int32.ofInt 176)), (2, .int x1)]) rfl rfl rfl rfl hy3 ci_1 rfl (by omega) (by omega) (fun _ => rfl) (fun z16 hz16 => ?_)
          refine h_goto (pc' := 25) rfl rfl ?_
          exact h_wk [(0, .ref 98), (1, .int (Int32.ofInt 176)), (2, .int x1), (3, .int z16)] ⟨rfl, rfl, rfl, rfl, trivial⟩ (ih _ Is14 Fs14 z16 _ hz16 (by omega) (g_DM_e ex0 (funext (fun j => Gs14 105 j rfl))) (by have gq := pr0 b3 (by omega) (by omega); have gz := g_hb_of hz7 hz6 hz5; rcases ps14_0 with q | q; (intro g a b; rw [show s14 99 (158 + g) = s14 99 (158 + g) from congrFun rfl _, q.2.2, g_set_n (by omega), g_set_n (by omega)]; exact ex1 g a b); (intro g a b; rw [show s14 99 (158 + g) = s14 99 (158 + g) from congrFun rfl _, q.2.2]; exact ex1 g a b)) (by have gq := pr0 b3 (by omega) (by omega); have gz := g_hb_of hz7 hz6 hz5; rcases ps14_0 with q | q; (exfalso; omega); (exact g_pmI_n (k := b3) (p := σ 99 (35 + b3) / 10) (g := σ 99 (35 + b3) % 10) ex2 (g_pmD (funext (fun j => Gs14 105 j rfl))) (by omega) rfl rfl (by omega) (by omega) (Or.inr ((g_yM_m (D := s0 105) (F0_.no (q := 99) (l := 0) (u := 131) (j := 25) rfl (by omega) (by omega)) (by omega) (fun i i0 i2 => ⟨(F0_.no (q := 99) (l := 0) (u := 131) (j := 19 + 2 * i) rfl (by omega) (by omega)), (F0_.no (q := 99) (l := 0) (u := 131) (j := 19 + 2 * i + 1) rfl (by omega) (by omega))⟩) (ex1 (σ 99 (35 + b3) % 10) (by omega) (by omega))).symm.trans q.2.1)) (rfl.trans q.2.2) (Gs14 98 22 rfl) (Gs14 98 23 rfl))) (by omega) (by omega))
        · refine h_aload_n (pc' := 84) rfl rfl rfl ?_
          refine h_dup (pc' := 85) rfl rfl rfl ?_
          refine h_getI (pc' := 88) (v := s14 98 23) rfl rfl rfl rfl rfl rfl (fun z17 hz17 => ?_)
          have tz17 := tf_98_23 Is14
          refine h_iconst (pc' := 89) (x := (Int32.ofInt 1)) rfl rfl rfl ?_
          refine h_iload_n (pc' := 90) rfl rfl rfl ?_
          refine h_ishl (pc' := 91) rfl rfl (fun z18 hz18 => ?_)
          refine h_ior (pc' := 92) rfl rfl (fun z19 hz19 => ?_)
          refine h_put (pc' := 95) rfl rfl rfl rfl rfl rfl rfl rfl (h_fgt (E := fun s => s 98 13 = s0 98 13 ∧ s = h_up s14 98 23 z19.toInt) _ (if_98_23 Is14 (h_rgv rfl)) (Fs14.up rfl) ⟨es14_0, rfl⟩ (fun s20 Is20 Fs20 (es20 : s20 98 13 = s0 98 13 ∧ s20 = h_up s14 98 23 z19.toInt) => ?_))
          have us20 := es20.2
          refine h_aload_n (pc' := 96) rfl rfl rfl ?_
          refine h_dup (pc' := 97) rfl rfl rfl ?_
          refine h_getI (pc' := 100) (v := s20 98 22) rfl rfl rfl rfl rfl rfl (fun z21 hz21 => ?_)
          have tz21 := tf_98_22 Is20
          refine h_iconst (pc' := 101) (x := (Int32.ofInt 1)) rfl rfl rfl ?_
          refine h_iload (pc' := 103) rfl rfl rfl ?_
          refine h_shl1 (pc' := 104) rfl rfl ci_1 hz5 (by omega) (by omega) (fun z22 hz22 vz22 => ?_)
          refine h_ior (pc' := 105) rfl rfl (fun z23 hz23 => ?_)
          refine h_put (pc' := 108) rfl rfl rfl rfl rfl rfl rfl rfl (h_fgt (E := fun s => s 98 13 = s0 98 13 ∧ s = h_up s20 98 22 z23.toInt) _ (if_98_22 Is20 (h_rgv rfl)) (Fs20.up rfl) ⟨es20.1, rfl⟩ (fun s24 Is24 Fs24 (es24 : s24 98 13 = s0 98 13 ∧ s24 = h_up s20 98 22 z23.toInt) => ?_))
          clear es20
          have us24 := es24.2
          refine h_iinc (pc' := 111) (M := fun z25 => [(3, .int z25), (4, .int z5), (0, .ref 98), (1, .int (Int32.ofInt 176)), (2, .int x1)]) rfl rfl rfl rfl hy3 ci_1 rfl (by omega) (by omega) (fun _ => rfl) (fun z25 hz25 => ?_)
          refine h_goto (pc' := 25) rfl rfl ?_
          exact h_wk [(0, .ref 98), (1, .int (Int32.ofInt 176)), (2, .int x1), (3, .int z25)] ⟨rfl, rfl, rfl, rfl, trivial⟩ (ih _ Is24 Fs24 z25 _ hz25 (by omega) (g_DM_e ex0 ((h_upg us24 rfl).trans ((h_upg us20 rfl).trans (funext (fun j => Gs14 105 j rfl))))) (by have gq := pr0 b3 (by omega) (by omega); have gz := g_hb_of hz7 hz6 hz5; rcases ps14_0 with q | q; (intro g a b; rw [show s24 99 (158 + g) = s14 99 (158 + g) from congrFun ((h_upg us24 rfl).trans (h_upg us20 rfl)) _, q.2.2, g_set_n (by omega), g_set_n (by omega)]; exact ex1 g a b); (intro g a b; rw [show s24 99 (158 + g) = s14 99 (158 + g) from congrFun ((h_upg us24 rfl).trans (h_upg us20 rfl)) _, q.2.2]; exact ex1 g a b)) (by have gq := pr0 b3 (by omega) (by omega); have gz := g_hb_of hz7 hz6 hz5; rcases ps14_0 with q | q; (exact g_pmI_y (k := b3) (p := σ 99 (35 + b3) / 10) (g := σ 99 (35 + b3) % 10) ex2 (g_pmD ((h_upg us24 rfl).trans ((h_upg us20 rfl).trans (funext (fun j => Gs14 105 j rfl))))) (by omega) rfl rfl (by omega) (by omega) (by omega) ((g_yM_m (D := s0 105) (F0_.no (q := 99) (l := 0) (u := 131) (j := 25) rfl (by omega) (by omega)) (by omega) (fun i i0 i2 => ⟨(F0_.no (q := 99) (l := 0) (u := 131) (j := 19 + 2 * i) rfl (by omega) (by omega)), (F0_.no (q := 99) (l := 0) (u := 131) (j := 19 + 2 * i + 1) rfl (by omega) (by omega))⟩) (ex1 (σ 99 (35 + b3) % 10) (by omega) (by omega))).symm.trans q.2.1) (((h_upg us24 rfl).trans (h_upg us20 rfl)).trans q.2.2) (((congrArg Int32.ofInt (h_upv us24)).trans (g_came hz23 hz22 hz5 hz21)).trans (congrArg (fun z => g_or (Int32.ofInt z) (σ 99 (35 + b3) / 10)) ((h_upd us20 (by decide)).trans (Gs14 98 22 rfl)))) (((congrArg Int32.ofInt (h_upd us24 (by decide))).trans ((congrArg Int32.ofInt (h_upv us20)).trans (g_came hz19 hz18 hy3 hz17))).trans (congrArg (fun z => g_or (Int32.ofInt z) (b3)) (Gs14 98 23 rfl)))); (exfalso; omega)) (by omega) (by omega))
set_option maxHeartbeats 100000000 in
set_option maxHeartbeats 100000000 in
theorem n_plan176 {ns : Nat} (σ : h_S) (hI : h_I σ) (x1 : Int32) (a1 : Int) (hx1 : x1.toInt = a1) (pr0 : ∀ i, 0 ≤ i → i < σ 99 43 → 0 ≤ σ 99 (35 + i) ∧ σ 99 (35 + i) / 10 < 6 ∧ σ 99 (35 + i) % 10 < 3) {Q : Option Value → h_S → Prop} (kk : ∀ (τ : h_S), h_I τ → h_F (k_in kf_n_plan176) τ σ → (g_DM (σ 98 1) (σ 99 194) (fun j => σ 99 (176 + j)) (σ 100) (τ 105)) → (g_pmI (fun p l g => g_yM (τ 105) (fun i => σ 99 (19 + 2 * i)) (fun i => σ 99 (19 + 2 * i + 1)) (σ 99 25) p l (σ 99 (202 + g))) x1 (fun i => σ 99 (35 + i)) (fun g => g_orn (σ 99 (205 + g))) (σ 99 43) (τ 99) (τ 98 22) (τ 98 23)) → Q none τ) : h_T g_P (g_Y ns) 191 0 [(0, .ref 98), (1, .int (Int32.ofInt 176)), (2, .int x1)] [] σ Q := by
  have F00 : h_F (k_in kf_n_plan176) σ σ := h_F.rf
  have ge0 := ty_99_10 hI 43 (by omega)
  refine h_aload_n (pc' := 1) rfl rfl rfl ?_
  refine h_iload_n (pc' := 2) rfl rfl rfl ?_
  refine h_call (sp := false) (pc' := 5) (M := [(0, .ref 98), (1, .int (Int32.ofInt 176))]) rfl rfl rfl rfl rfl rfl rfl rfl ?_
  refine n_lays_176 _ hI  (fun s2 Is2 Gs2 ps2_0 => h_Kn ?_)
  have Fs2 := (Gs2.mono (B := kf_n_plan176) rfl).tr F00
  have es2_0 : s2 98 13 = σ 98 13 := (Gs2 98 13 rfl).trans rfl
  refine h_aload_n (pc' := 6) rfl rfl rfl ?_
  refine h_iload_n (pc' := 7) rfl rfl rfl ?_
  refine h_sipush (pc' := 10) (x := (Int32.ofInt 132)) rfl rfl cs_132 ?_
  refine h_call (sp := false) (pc' := 13) (M := [(0, .ref 98), (1, .int (Int32.ofInt 176)), (2, .int (Int32.ofInt 132))]) rfl rfl rfl rfl rfl rfl rfl rfl ?_
  refine n_copies_176_132 _ Is2   (fun s4 Is4 Gs4 ps4_0 => h_Kn ?_)
  have Fs4 := (Gs4.mono (B := kf_n_plan176) rfl).tr Fs2
  have es4_0 : s4 98 13 = σ 98 13 := (Gs4 98 13 rfl).trans es2_0
  refine h_aload_n (pc' := 14) rfl rfl rfl ?_
  refine h_iconst (pc' := 15) (x := (Int32.ofInt 0)) rfl rfl rfl ?_
  refine h_put (pc' := 18) rfl rfl rfl rfl rfl rfl ci_0 rfl (h_fgt (E := fun s => s 98 13 = σ 98 13 ∧ s = h_up s4 98 22 0) _ (if_98_22 Is4 (h_rgv ci_0)) (Fs4.up rfl) ⟨es4_0, rfl⟩ (fun s5 Is5 Fs5 (es5 : s5 98 13 = σ 98 13 ∧ s5 = h_up s4 98 22 0) => ?_))
  have us5 := es5.2
  refine h_aload_n (pc' := 19) rfl rfl rfl ?_
  refine h_iconst (pc' := 20) (x := (Int32.ofInt 0)) rfl rfl rfl ?_
  refine h_put (pc' := 23) rfl rfl rfl rfl rfl rfl ci_0 rfl (h_fgt (E := fun s => s 98 13 = σ 98 13 ∧ s = h_up s5 98 23 0) _ (if_98_23 Is5 (h_rgv ci_0)) (Fs5.up rfl) ⟨es5.1, rfl⟩ (fun s6 Is6 Fs6 (es6 : s6 98 13 = σ 98 13 ∧ s6 = h_up s5 98 23 0) => ?_))
  clear es5
  have us6 := es6.2
  refine h_iconst (pc' := 24) (x := (Int32.ofInt 0)) rfl rfl rfl ?_
  refine h_istore_n (pc' := 25) (M := [(3, .int (Int32.ofInt 0)), (0, .ref 98), (1, .int (Int32.ofInt 176)), (2, .int x1)]) rfl rfl rfl rfl ?_
  exact h_wk [(0, .ref 98), (1, .int (Int32.ofInt 176)), (2, .int x1), (3, .int (Int32.ofInt 0))] ⟨rfl, rfl, rfl, rfl, trivial⟩ ((n_plan176_l ns σ hI x1 a1 hx1 pr0 kk 1000000000000) _ Is6 Fs6 (Int32.ofInt 0) _ ci_0 (by omega) (g_DM_e ps2_0 ((h_upg us6 rfl).trans ((h_upg us5 rfl).trans (funext (fun j => Gs4 105 j rfl))))) (fun g a b => ((congrFun ((h_upg us6 rfl).trans (h_upg us5 rfl)) (158 + g)).trans ((congrArg (s4 99) (show 158 + g = 132 + (26 + g) by omega)).trans ((ps4_0 (26 + g) (by omega) (by omega)).trans ((congrFun (funext (fun j => Gs2 99 j rfl)) (176 + (26 + g))).trans (congrArg (σ 99) (show 176 + (26 + g) = 202 + g by omega))))))) (g_pmI_0 rfl (fun g a b => congrArg g_orn ((congrFun ((h_upg us6 rfl).trans (h_upg us5 rfl)) (161 + g)).trans ((congrArg (s4 99) (show 161 + g = 132 + (29 + g) by omega)).trans ((ps4_0 (29 + g) (by omega) (by omega)).trans ((congrFun (funext (fun j => Gs2 99 j rfl)) (176 + (29 + g))).trans (congrArg (σ 99) (show 176 + (29 + g) = 205 + g by omega))))))) ((h_upd us6 (by decide)).trans (h_upv us5)) (h_upv us6)) (by omega) (by omega))
