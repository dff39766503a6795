set_option maxHeartbeats 100000000 in
theorem n_nameHere_l (ns : Nat) (σ : h_S) (hI : h_I σ) (pr0 : σ 98 15 ≤ σ 98 11) (pr1 : σ 98 16 ≤ σ 98 15) {Q : Option Value → h_S → Prop} (kk : ∀ (r : Int32) (b : Int) (hb : r.toInt = b), ((-4) ≤ b ∧ b ≤ 7) → (σ 98 17 = 1 → g_fq σ b) → (σ 98 17 = 1 ∨ b = -4) → Q (some (.int r)) σ) : ∀ n : Nat, (∀ (y1 : Int32) (b1 : Int), y1.toInt = b1 → (0 ≤ b1 ∧ b1 ≤ 8) → (g_i0 σ b1) → (8 + 1 - b1) * 1000000 + 1000000000 ≤ (n : Int) → h_T g_P (g_Y ns) 147 2 [(0, .ref 98), (1, .int y1)] [] σ Q) ∧ (∀ (y1 : Int32) (b1 : Int), y1.toInt = b1 → (0 ≤ b1 ∧ b1 ≤ 7) → ∀ (y2 : Int32) (b2 : Int), y2.toInt = b2 → (0 ≤ b2 ∧ b2 ≤ 1) → ∀ (y3 : Int32) (b3 : Int), y3.toInt = b3 → (0 ≤ b3 ∧ b3 ≤ 160) → (g_i0 σ b1) → (g_i1 σ b1 b2 b3) → (b2 = 0 ∨ σ 98 15 - σ 98 16 = σ 103 (b1 + 1) - σ 103 b1) → (σ 103 (b1 + 1) ≤ 44) → (σ 98 17 = 1) → ((8 + 1 - b1) - 1) * 1000000 + 1000000000 + (160 + 1 - b3) * 1000 + 100000 ≤ (n : Int) → h_T g_P (g_Y ns) 147 51 [(0, .ref 98), (1, .int y1), (2, .int y2), (3, .int y3)] [] σ Q) := by
  intro n
  induction n with
  | zero => exact ⟨by intro  y1 b1 hy1 ry1 ex0 hm; have gh0 := tf_98_11 hI; have gh1 := tf_98_15 hI; have gh2 := tf_98_16 hI; exfalso; omega, by intro  y1 b1 hy1 ry1 y2 b2 hy2 ry2 y3 b3 hy3 ry3 ex0 ex1 ex2 ex3 ex4 hm; have gh0 := tf_98_11 hI; have gh1 := tf_98_15 hI; have gh2 := tf_98_16 hI; exfalso; omega⟩
  | succ n ih =>
    refine ⟨?_, ?_⟩
    · intro  y1 b1 hy1 ry1 ex0 hm; have gh0 := tf_98_11 hI; have gh1 := tf_98_15 hI; have gh2 := tf_98_16 hI
      refine h_iload_n (pc' := 3) rfl rfl rfl ?_
      refine h_bipush (pc' := 5) (x := (Int32.ofInt 8)) rfl rfl cb_8 ?_
      refine h_cge (tg := 118) (pc' := 8) rfl rfl rfl hy1 ci_8 (fun c1 => ?_) (fun c1 => ?_)
      · refine h_bipush (pc' := 120) (x := (Int32.ofInt (-4))) rfl rfl cb_m4 ?_
        exact h_iret rfl rfl (kk _ _ ci_m4 (by omega) (fun h => by first | exact absurd h (by omega) | exact Or.inl ⟨rfl, g_i0_m ex0 (by omega)⟩) (Or.inr rfl))
      · refine h_aload_n (pc' := 9) rfl rfl rfl ?_
        refine h_getI (pc' := 12) (v := σ 98 17) rfl rfl rfl rfl rfl rfl (fun z2 hz2 => ?_)
        have tz2 := tf_98_17 hI
        refine h_iconst (pc' := 13) (x := (Int32.ofInt 1)) rfl rfl rfl ?_
        refine h_cne (tg := 118) (pc' := 16) rfl rfl rfl hz2 ci_1 (fun c3 => ?_) (fun c3 => ?_)
        · refine h_bipush (pc' := 120) (x := (Int32.ofInt (-4))) rfl rfl cb_m4 ?_
          exact h_iret rfl rfl (kk _ _ ci_m4 (by omega) (fun h => by first | exact absurd h (by omega) | exact Or.inl ⟨rfl, g_i0_m ex0 (by omega)⟩) (Or.inr rfl))
        · refine h_aload_n (pc' := 17) rfl rfl rfl ?_
          refine h_getI (pc' := 20) (v := σ 98 15) rfl rfl rfl rfl rfl rfl (fun z4 hz4 => ?_)
          have tz4 := tf_98_15 hI
          refine h_aload_n (pc' := 21) rfl rfl rfl ?_
          refine h_getI (pc' := 24) (v := σ 98 16) rfl rfl rfl rfl rfl rfl (fun z5 hz5 => ?_)
          have tz5 := tf_98_16 hI
          refine h_isub (pc' := 25) rfl rfl hz4 hz5 rfl (by omega) (by omega) (fun z6 hz6 => ?_)
          refine h_aload_n (pc' := 26) rfl rfl rfl ?_
          refine h_getR (pc' := 29) rfl rfl rfl rfl rfl ?_
          refine h_iload_n (pc' := 30) rfl rfl rfl ?_
          refine h_iconst (pc' := 31) (x := (Int32.ofInt 1)) rfl rfl rfl ?_
          refine h_iadd (pc' := 32) rfl rfl hy1 ci_1 rfl (by omega) (by omega) (fun z7 hz7 => ?_)
          refine h_iald (pc' := 33) (v := σ 103 (b1 + 1)) rfl rfl rfl hz7 (by omega) (by omega) rfl (fun z8 hz8 => ?_)
          have tz8 := ty_103 hI (b1 + 1)
          refine h_aload_n (pc' := 34) rfl rfl rfl ?_
          refine h_getR (pc' := 37) rfl rfl rfl rfl rfl ?_
          refine h_iload_n (pc' := 38) rfl rfl rfl ?_
          refine h_iald (pc' := 39) (v := σ 103 b1) rfl rfl rfl hy1 (by omega) (by omega) rfl (fun z9 hz9 => ?_)
          have tz9 := ty_103 hI b1
          refine h_isub (pc' := 40) rfl rfl hz8 hz9 rfl (by omega) (by omega) (fun z10 hz10 => ?_)
          refine h_cne (tg := 47) (pc' := 43) rfl rfl rfl hz6 hz10 (fun c11 => ?_) (fun c11 => ?_)
          · refine h_iconst (pc' := 48) (x := (Int32.ofInt 0)) rfl rfl rfl ?_
            refine h_istore_n (pc' := 49) (M := [(2, .int (Int32.ofInt 0)), (0, .ref 98), (1, .int y1)]) rfl rfl rfl rfl ?_
            refine h_iconst (pc' := 50) (x := (Int32.ofInt 0)) rfl rfl rfl ?_
            refine h_istore_n (pc' := 51) (M := [(3, .int (Int32.ofInt 0)), (2, .int (Int32.ofInt 0)), (0, .ref 98), (1, .int y1)]) rfl rfl rfl rfl ?_
            exact h_wk [(0, .ref 98), (1, .int y1), (2, .int (Int32.ofInt 0)), (3, .int (Int32.ofInt 0))] ⟨rfl, rfl, rfl, rfl, trivial⟩ (ih.2 y1 _ hy1 (by omega) (Int32.ofInt 0) _ ci_0 (by omega) (Int32.ofInt 0) _ ci_0 (by omega) ex0 (g_i1_b (by omega)) (by omega) (by omega) (by omega) (by omega))
          · refine h_iconst (pc' := 44) (x := (Int32.ofInt 1)) rfl rfl rfl ?_
            refine h_goto (pc' := 48) rfl rfl ?_
            refine h_istore_n (pc' := 49) (M := [(2, .int (Int32.ofInt 1)), (0, .ref 98), (1, .int y1)]) rfl rfl rfl rfl ?_
            refine h_iconst (pc' := 50) (x := (Int32.ofInt 0)) rfl rfl rfl ?_
            refine h_istore_n (pc' := 51) (M := [(3, .int (Int32.ofInt 0)), (2, .int (Int32.ofInt 1)), (0, .ref 98), (1, .int y1)]) rfl rfl rfl rfl ?_
            exact h_wk [(0, .ref 98), (1, .int y1), (2, .int (Int32.ofInt 1)), (3, .int (Int32.ofInt 0))] ⟨rfl, rfl, rfl, rfl, trivial⟩ (ih.2 y1 _ hy1 (by omega) (Int32.ofInt 1) _ ci_1 (by omega) (Int32.ofInt 0) _ ci_0 (by omega) ex0 (g_i1_a (by omega)) (by omega) (by omega) (by omega) (by omega))
    · intro  y1 b1 hy1 ry1 y2 b2 hy2 ry2 y3 b3 hy3 ry3 ex0 ex1 ex2 ex3 ex4 hm; have gh0 := tf_98_11 hI; have gh1 := tf_98_15 hI; have gh2 := tf_98_16 hI
      refine h_iload_n (pc' := 52) rfl rfl rfl ?_
      refine h_zeq (tg := 106) (pc' := 55) rfl rfl rfl hy2 (fun c1 => ?_) (fun c1 => ?_)
      · refine h_iload_n (pc' := 107) rfl rfl rfl ?_
        refine h_zeq (tg := 112) (pc' := 110) rfl rfl rfl hy2 (fun c2 => ?_) (fun c2 => absurd c2 (by omega))
        refine h_iinc (pc' := 115) (M := fun z3 => [(1, .int z3), (0, .ref 98), (2, .int y2), (3, .int y3)]) rfl rfl rfl rfl hy1 ci_1 rfl (by omega) (by omega) (fun _ => rfl) (fun z3 hz3 => ?_)
        refine h_goto (pc' := 2) rfl rfl ?_
        exact h_wk [(0, .ref 98), (1, .int z3)] ⟨rfl, rfl, trivial⟩ (ih.1 z3 _ hz3 (by omega) (g_i0_s ex0 ex1 (by omega)) (by omega))
      · refine h_iload_n (pc' := 56) rfl rfl rfl ?_
        refine h_aload_n (pc' := 57) rfl rfl rfl ?_
        refine h_getI (pc' := 60) (v := σ 98 15) rfl rfl rfl rfl rfl rfl (fun z4 hz4 => ?_)
        have tz4 := tf_98_15 hI
        refine h_aload_n (pc' := 61) rfl rfl rfl ?_
        refine h_getI (pc' := 64) (v := σ 98 16) rfl rfl rfl rfl rfl rfl (fun z5 hz5 => ?_)
        have tz5 := tf_98_16 hI
        refine h_isub (pc' := 65) rfl rfl hz4 hz5 rfl (by omega) (by omega) (fun z6 hz6 => ?_)
        refine h_cge (tg := 106) (pc' := 68) rfl rfl rfl hy3 hz6 (fun c7 => ?_) (fun c7 => ?_)
        · refine h_iload_n (pc' := 107) rfl rfl rfl ?_
          refine h_zeq (tg := 112) (pc' := 110) rfl rfl rfl hy2 (fun c8 => absurd c8 (by omega)) (fun c8 => ?_)
          refine h_iload_n (pc' := 111) rfl rfl rfl ?_
          exact h_iret rfl rfl (kk _ _ hy1 (by omega) (fun _ => Or.inr ⟨by omega, by omega, g_i1_y ex1 (by omega) (by omega), ex0⟩) (Or.inl (by omega)))
        · refine h_aload_n (pc' := 69) rfl rfl rfl ?_
          refine h_aload_n (pc' := 70) rfl rfl rfl ?_
          refine h_getI (pc' := 73) (v := σ 98 16) rfl rfl rfl rfl rfl rfl (fun z9 hz9 => ?_)
          have tz9 := tf_98_16 hI
          refine h_iload_n (pc' := 74) rfl rfl rfl ?_
          refine h_iadd (pc' := 75) rfl rfl hz9 hy3 rfl (by omega) (by omega) (fun z10 hz10 => ?_)
          refine h_call (sp := false) (pc' := 78) (M := [(0, .ref 98), (1, .int z10)]) rfl rfl rfl rfl rfl rfl rfl rfl ?_
          refine h_iload_n (pc' := 1) rfl rfl rfl ?_
          refine h_aload_n (pc' := 2) rfl rfl rfl ?_
          refine h_getI (pc' := 5) (v := σ 98 11) rfl rfl rfl rfl rfl rfl (fun z11 hz11 => ?_)
          have tz11 := tf_98_11 hI
          refine h_cge (tg := 17) (pc' := 8) rfl rfl rfl hz10 hz11 (fun c12 => ?_) (fun c12 => ?_)
          · refine h_bipush (pc' := 19) (x := (Int32.ofInt (-4))) rfl rfl cb_m4 ?_
            refine h_iret rfl rfl (h_Kv ?_)
            refine h_aload_n (pc' := 79) rfl rfl rfl ?_
            refine h_getR (pc' := 82) rfl rfl rfl rfl rfl ?_
            refine h_aload_n (pc' := 83) rfl rfl rfl ?_
            refine h_getR (pc' := 86) rfl rfl rfl rfl rfl ?_
            refine h_iload_n (pc' := 87) rfl rfl rfl ?_
            refine h_iald (pc' := 88) (v := σ 103 b1) rfl rfl rfl hy1 (by omega) (by omega) rfl (fun z13 hz13 => ?_)
            have tz13 := ty_103 hI b1
            refine h_iload_n (pc' := 89) rfl rfl rfl ?_
            refine h_iadd (pc' := 90) rfl rfl hz13 hy3 rfl (by omega) (by omega) (fun z14 hz14 => ?_)
            refine h_iald (pc' := 91) (v := σ 104 ((σ 103 b1) + b3)) rfl rfl rfl hz14 (by omega) (by omega) rfl (fun z15 hz15 => ?_)
            have tz15 := ty_104 hI ((σ 103 b1) + b3)
            refine h_cne (tg := 98) (pc' := 94) rfl rfl rfl ci_m4 hz15 (fun c16 => ?_) (fun c16 => ?_)
            · refine h_iconst (pc' := 99) (x := (Int32.ofInt 0)) rfl rfl rfl ?_
              refine h_istore_n (pc' := 100) (M := [(2, .int (Int32.ofInt 0)), (0, .ref 98), (1, .int y1), (3, .int y3)]) rfl rfl rfl rfl ?_
              refine h_iinc (pc' := 103) (M := fun z17 => [(3, .int z17), (2, .int (Int32.ofInt 0)), (0, .ref 98), (1, .int y1)]) rfl rfl rfl rfl hy3 ci_1 rfl (by omega) (by omega) (fun _ => rfl) (fun z17 hz17 => ?_)
              refine h_goto (pc' := 51) rfl rfl ?_
              exact h_wk [(0, .ref 98), (1, .int y1), (2, .int (Int32.ofInt 0)), (3, .int z17)] ⟨rfl, rfl, rfl, rfl, trivial⟩ (ih.2 y1 _ hy1 (by omega) (Int32.ofInt 0) _ ci_0 (by omega) z17 _ hz17 (by omega) ex0 (by first | exact g_i1_n (by omega) (by omega) (by omega) | (exfalso; omega)) (by omega) (by omega) (by omega) (by omega))
            · refine h_iconst (pc' := 95) (x := (Int32.ofInt 1)) rfl rfl rfl ?_
              refine h_goto (pc' := 99) rfl rfl ?_
              refine h_istore_n (pc' := 100) (M := [(2, .int (Int32.ofInt 1)), (0, .ref 98), (1, .int y1), (3, .int y3)]) rfl rfl rfl rfl ?_
              refine h_iinc (pc' := 103) (M := fun z18 => [(3, .int z18), (2, .int (Int32.ofInt 1)), (0, .ref 98), (1, .int y1)]) rfl rfl rfl rfl hy3 ci_1 rfl (by omega) (by omega) (fun _ => rfl) (fun z18 hz18 => ?_)
              refine h_goto (pc' := 51) rfl rfl ?_
              exact h_wk [(0, .ref 98), (1, .int y1), (2, .int (Int32.ofInt 1)), (3, .int z18)] ⟨rfl, rfl, rfl, rfl, trivial⟩ (ih.2 y1 _ hy1 (by omega) (Int32.ofInt 1) _ ci_1 (by omega) z18 _ hz18 (by omega) ex0 (g_i1_s ex1 (by omega) (by omega)) (by omega) (by omega) (by omega) (by omega))
          · refine h_aload_n (pc' := 9) rfl rfl rfl ?_
            refine h_getR (pc' := 12) rfl rfl rfl rfl rfl ?_
            refine h_iload_n (pc' := 13) rfl rfl rfl ?_
            refine h_iald (pc' := 14) (v := σ 102 ((σ 98 16) + b3)) rfl rfl rfl hz10 (by omega) (by omega) rfl (fun z19 hz19 => ?_)
            have tz19 := ty_102 hI ((σ 98 16) + b3)
            refine h_goto (pc' := 19) rfl rfl ?_
            refine h_iret rfl rfl (h_Kv ?_)
            refine h_aload_n (pc' := 79) rfl rfl rfl ?_
            refine h_getR (pc' := 82) rfl rfl rfl rfl rfl ?_
            refine h_aload_n (pc' := 83) rfl rfl rfl ?_
            refine h_getR (pc' := 86) rfl rfl rfl rfl rfl ?_
            refine h_iload_n (pc' := 87) rfl rfl rfl ?_
            refine h_iald (pc' := 88) (v := σ 103 b1) rfl rfl rfl hy1 (by omega) (by omega) rfl (fun z20 hz20 => ?_)
            have tz20 := ty_103 hI b1
            refine h_iload_n (pc' := 89) rfl rfl rfl ?_
            refine h_iadd (pc' := 90) rfl rfl hz20 hy3 rfl (by omega) (by omega) (fun z21 hz21 => ?_)
            refine h_iald (pc' := 91) (v := σ 104 ((σ 103 b1) + b3)) rfl rfl rfl hz21 (by omega) (by omega) rfl (fun z22 hz22 => ?_)
            have tz22 := ty_104 hI ((σ 103 b1) + b3)
            refine h_cne (tg := 98) (pc' := 94) rfl rfl rfl hz19 hz22 (fun c23 => ?_) (fun c23 => ?_)
            · refine h_iconst (pc' := 99) (x := (Int32.ofInt 0)) rfl rfl rfl ?_
              refine h_istore_n (pc' := 100) (M := [(2, .int (Int32.ofInt 0)), (0, .ref 98), (1, .int y1), (3, .int y3)]) rfl rfl rfl rfl ?_
              refine h_iinc (pc' := 103) (M := fun z24 => [(3, .int z24), (2, .int (Int32.ofInt 0)), (0, .ref 98), (1, .int y1)]) rfl rfl rfl rfl hy3 ci_1 rfl (by omega) (by omega) (fun _ => rfl) (fun z24 hz24 => ?_)
              refine h_goto (pc' := 51) rfl rfl ?_
              exact h_wk [(0, .ref 98), (1, .int y1), (2, .int (Int32.ofInt 0)), (3, .int z24)] ⟨rfl, rfl, rfl, rfl, trivial⟩ (ih.2 y1 _ hy1 (by omega) (Int32.ofInt 0) _ ci_0 (by omega) z24 _ hz24 (by omega) ex0 (by first | exact g_i1_n (by omega) (by omega) (by omega) | (exfalso; omega)) (by omega) (by omega) (by omega) (by omega))
            · refine h_iconst (pc' := 95) (x := (Int32.ofInt 1)) rfl rfl rfl ?_
              refine h_goto (pc' := 99) rfl rfl ?_
              refine h_istore_n (pc' := 100) (M := [(2, .int (Int32.ofInt 1)), (0, .ref 98), (1, .int y1), (3, .int y3)]) rfl rfl rfl rfl ?_
              refine h_iinc (pc' := 103) (M := fun z25 => [(3, .int z25), (2, .int (Int32.ofInt 1)), (0, .ref 98), (1, .int y1)]) rfl rfl rfl rfl hy3 ci_1 rfl (by omega) (by omega) (fun _ => rfl) (fun z25 hz25 => ?_)
              refine h_goto (pc' := 51) rfl rfl ?_
              exact h_wk [(0, .ref 98), (1, .int y1), (2, .int (Int32.ofInt 1)), (3, .int z25)] ⟨rfl, rfl, rfl, rfl, trivial⟩ (ih.2 y1 _ hy1 (by omega) (Int32.ofInt 1) _ ci_1 (by omega) z25 _ hz25 (by omega) ex0 (g_i1_s ex1 (by omega) (by omega)) (by omega) (by omega) (by omega) (by omega))
set_option maxHeartbeats 100000000 in
theorem n_nameHere {ns : Nat} (σ : h_S) (hI : h_I σ) (pr0 : σ 98 15 ≤ σ 98 11) (pr1 : σ 98 16 ≤ σ 98 15) {Q : Option Value → h_S → Prop} (kk : ∀ (r : Int32) (b : Int) (hb : r.toInt = b), ((-4) ≤ b ∧ b ≤ 7) → (σ 98 17 = 1 → g_fq σ b) → (σ 98 17 = 1 ∨ b = -4) → Q (some (.int r)) σ) : h_T g_P (g_Y ns) 147 0 [(0, .ref 98)] [] σ Q := by
  have ge0 := tf_98_11 hI
  have ge1 := tf_98_15 hI
  have ge2 := tf_98_16 hI
  refine h_iconst (pc' := 1) (x := (Int32.ofInt 0)) rfl rfl rfl ?_
  refine h_istore_n (pc' := 2) (M := [(1, .int (Int32.ofInt 0)), (0, .ref 98)]) rfl rfl rfl rfl ?_
  exact h_wk [(0, .ref 98), (1, .int (Int32.ofInt 0))] ⟨rfl, rfl, trivial⟩ ((n_nameHere_l ns σ hI pr0 pr1 kk 1000000000000).1 (Int32.ofInt 0) _ ci_0 (by omega) g_i0_0 (by omega))
theorem g_word {s t : h_S} {b b' : Int} (hTL : d_tape s t) (hI : h_I t) (h0 : 0 ≤ s 64 4) (h1 : s 64 4 = t 98 16) (h2 : s 64 2 = t 98 15) (h3 : s 64 2 ≤ s 64 1) (hx : g_fst (s 65) (s 64 4) (s 64 2 - s 64 4) b) (hm : g_fq t b') : b = b' := by
  have hm := g_fqs hI hm
  rw [← h1, ← h2] at hm
  exact g_fst_uni (fun i a c => hTL.1 i (by omega) (by omega)) hx hm
